/-! 68.eqB: laid by program (wip/whole) -/
theorem bI_and_t {A P : Prop} [Decidable A] (hP : P) : bI (A ∧ P) = if A then 1 else 0 := by
  by_cases h : A
  · rw [bI_t ⟨h, hP⟩, if_pos h]
  · rw [bI_f (fun q => h q.1), if_neg h]
theorem bI_and_f {A P : Prop} (hP : ¬ P) : bI (A ∧ P) = 0 := bI_f (fun q => hP q.2)
theorem ln0_eq (P : Prop) (j : Nat) (hj : j < 12) : dF 2 j + bI ((j : Int) = 1 ∧ P) = ln0 P ((j : Int) + 1) := by
  by_cases hP : P
  · rw [bI_and_t hP]
    unfold ln0
    rw [bI_t hP]
    have key : ∀ j : Nat, j < 12 → dF 2 j + (if (j : Int) = 1 then 1 else 0) = if ((j : Int) + 1) = 2 then 28 + 1 else if ((j : Int) + 1) = 4 ∨ ((j : Int) + 1) = 6 ∨ ((j : Int) + 1) = 9 ∨ ((j : Int) + 1) = 11 then 30 else 31 := by decide +kernel
    exact key j hj
  · rw [bI_and_f hP]
    unfold ln0
    rw [bI_f hP]
    have key : ∀ j : Nat, j < 12 → dF 2 j + 0 = if ((j : Int) + 1) = 2 then 28 + 0 else if ((j : Int) + 1) = 4 ∨ ((j : Int) + 1) = 6 ∨ ((j : Int) + 1) = 9 ∨ ((j : Int) + 1) = 11 then 30 else 31 := by decide +kernel
    exact key j hj
theorem ln3_eq (P : Prop) (j : Nat) (hj : j < 13) : dF 3 j + bI ((j : Int) = 12 ∧ P) = ln3 P ((j : Int) + 1) := by
  by_cases hP : P
  · rw [bI_and_t hP]
    unfold ln3
    rw [bI_t hP]
    have key : ∀ j : Nat, j < 13 → dF 3 j + (if (j : Int) = 12 then 1 else 0) = if ((j : Int) + 1) < 13 then 30 else 5 + 1 := by decide +kernel
    exact key j hj
  · rw [bI_and_f hP]
    unfold ln3
    rw [bI_f hP]
    have key : ∀ j : Nat, j < 13 → dF 3 j + 0 = if ((j : Int) + 1) < 13 then 30 else 5 + 0 := by decide +kernel
    exact key j hj
theorem ln5_eq (P : Prop) (j : Nat) (hj : j < 12) : dF 4 j + bI ((j : Int) = 11 ∧ P) = ln5 P ((j : Int) + 1) := by
  by_cases hP : P
  · rw [bI_and_t hP]
    unfold ln5
    rw [bI_and_t hP]
    have key : ∀ j : Nat, j < 12 → dF 4 j + (if (j : Int) = 11 then 1 else 0) = if ((j : Int) + 1) % 2 = 1 then 30 else 29 + if ((j : Int) + 1) = 12 then 1 else 0 := by decide +kernel
    exact key j hj
  · rw [bI_and_f hP]
    unfold ln5
    rw [bI_and_f hP]
    have key : ∀ j : Nat, j < 12 → dF 4 j + 0 = if ((j : Int) + 1) % 2 = 1 then 30 else 29 + 0 := by decide +kernel
    exact key j hj
theorem ln6_eq (P : Prop) (j : Nat) (hj : j < 12) : dF 5 j + bI ((j : Int) = 11 ∧ P) = ln6 P ((j : Int) + 1) := by
  by_cases hP : P
  · rw [bI_and_t hP]
    unfold ln6
    rw [bI_t hP]
    have key : ∀ j : Nat, j < 12 → dF 5 j + (if (j : Int) = 11 then 1 else 0) = if ((j : Int) + 1) < 7 then 31 else if ((j : Int) + 1) < 12 then 30 else 29 + 1 := by decide +kernel
    exact key j hj
  · rw [bI_and_f hP]
    unfold ln6
    rw [bI_f hP]
    have key : ∀ j : Nat, j < 12 → dF 5 j + 0 = if ((j : Int) + 1) < 7 then 31 else if ((j : Int) + 1) < 12 then 30 else 29 + 0 := by decide +kernel
    exact key j hj
theorem ln8_eq (P : Prop) (j : Nat) (hj : j < 20) : dF 6 j + bI ((j : Int) = 18 ∧ P) = ln8 P (if (j : Int) < 18 then (j : Int) + 1 else if (j : Int) = 18 then 0 else 19) := by
  by_cases hP : P
  · rw [bI_and_t hP]
    unfold ln8
    rw [bI_t hP]
    have key : ∀ j : Nat, j < 20 → dF 6 j + (if (j : Int) = 18 then 1 else 0) = if (if (j : Int) < 18 then (j : Int) + 1 else if (j : Int) = 18 then 0 else 19) = 0 then 4 + 1 else 19 := by decide +kernel
    exact key j hj
  · rw [bI_and_f hP]
    unfold ln8
    rw [bI_f hP]
    have key : ∀ j : Nat, j < 20 → dF 6 j + 0 = if (if (j : Int) < 18 then (j : Int) + 1 else if (j : Int) = 18 then 0 else 19) = 0 then 4 + 0 else 19 := by decide +kernel
    exact key j hj
theorem maM_p {cal k pl : Int} (h8 : cal ≠ 8) (h9 : cal ≠ 9) : maM cal k pl = pl + 1 := by
  unfold maM
  rw [if_neg h8, if_neg h9]
theorem maM_9 {k pl : Int} : maM 9 k pl = if pl + 7 ≤ 12 + bI (yl9 k) then pl + 7 else pl + 7 - (12 + bI (yl9 k)) := by
  unfold maM
  rw [if_neg (show ¬ (9 : Int) = 8 by decide), if_pos rfl]
theorem dF0_eq : ∀ j : Nat, j < 20 → dF 0 j = (j : Int) + 1 := by decide +kernel
theorem dF1_eq : ∀ j : Nat, j < 20 → dF 1 j = (if (j : Int) < 18 then (j : Int) + 1 else if (j : Int) = 18 then 0 else 19) := by decide +kernel
theorem maM_inj {g : Nat → Nat → Int} {cal : Int} (hc : (cal = 0 ∨ cal = 1 ∨ cal = 3 ∨ cal = 4 ∨ cal = 5 ∨ cal = 6 ∨ cal = 7 ∨ cal = 8 ∨ cal = 9 ∨ cal = 12 ∨ cal = 13)) (k : Int) (i j : Nat) (hi : (i : Int) < nmM g cal k) (hj : (j : Int) < nmM g cal k) (h : maM cal k i = maM cal k j) : i = j := by
  by_cases h8 : cal = 8
  · subst h8
    have n8 : nmM g 8 k = 20 := by unfold nmM; simp
    rw [n8] at hi hj
    unfold maM at h
    rw [if_pos rfl, if_pos rfl] at h
    revert h
    split <;> split <;> (try split) <;> (try split) <;> omega
  by_cases h9 : cal = 9
  · subst h9
    have n9 : nmM g 9 k = 12 + bI (yl9 k) := by unfold nmM; simp
    rw [n9] at hi hj
    rw [maM_9, maM_9] at h
    have := bI_01 (yl9 k)
    revert h
    split <;> split <;> omega
  rw [maM_p h8 h9, maM_p h8 h9] at h
  omega
theorem YM.month {g : Nat → Nat → Int} {cal : Int} (hcal : (cal = 0 ∨ cal = 1 ∨ cal = 3 ∨ cal = 4 ∨ cal = 5 ∨ cal = 6 ∨ cal = 7 ∨ cal = 8 ∨ cal = 12 ∨ cal = 13)) (ho : 12 ≤ cal → OwnOK g (Int.toNat (cal - 12))) {lp ep pd : Int} {fn fl : Nat → Int} {n : Nat} {H0 : Prop} {L : Int → Int} (e1 : ep = epM g cal) (e2 : pd = plM g cal) (e3 : ∀ y, L y = lbM g cal y) (e4 : ∀ k, (n : Int) = nmM g cal k) (e5 : ∀ (k : Int) (j : Nat), j < n → fn j = maM cal k j) (e6 : ∀ (k : Int) (j : Nat), j < n → fl j + bI ((j : Int) = lp ∧ lpM g cal k) = lnM g cal k (maM cal k j)) (e7 : H0 ↔ ¬ (cal = 1 ∨ cal = 6)) (hep : -1000000 ≤ ep ∧ ep ≤ 1000000) :
    YM g cal (ys ep pd L) (fun _ => (n : Int)) (fun pl _ => fn pl.toNat) (laM lp pd fl) (coM H0) (yaM H0) (fun y => H0 ∨ y ≠ 0) := by
  have hS : ys ep pd L = stM g cal := by
    rw [stM_p (by omega) (by omega)]
    funext y
    unfold ysM ys
    rw [e1, e2, e3 y, e3 1]
  refine ⟨by omega, hS, fun k => ⟨e4 k, fun j hj => ?_⟩, maM_inj (by omega), fun k => ?_, fun y hy => ?_, fun y => ?_, by rw [ys_1]; omega⟩
  · rw [← e4 k] at hj
    have hst : ys ep pd L (k + 1) - ys ep pd L k = pd + bI (lpM g cal k) := by
      rw [hS, stM_p (by omega) (by omega), ysM_step hcal ho, e2]
      omega
    refine ⟨by dsimp only; rw [Int.toNat_natCast]; exact e5 k j (by omega), ?_⟩
    rw [hst, ← e6 k j (by omega)]
    unfold laM
    rw [Int.toNat_natCast]
    congr 1
    refine bI_iff ?_
    by_cases hp : lpM g cal k
    · rw [bI_t hp]
      exact ⟨fun q => ⟨q.1, hp⟩, fun q => ⟨q.1, by omega⟩⟩
    · rw [bI_f hp]
      exact ⟨fun q => by omega, fun q => absurd q.2 hp⟩
  · unfold yaM nmd
    by_cases h : H0
    · rw [bI_f (fun q => q.1 h), if_neg (fun q => e7.mp h q.1)]
      omega
    · have h16 : cal = 1 ∨ cal = 6 := by
        by_cases q : cal = 1 ∨ cal = 6
        · exact q
        · exact absurd (e7.mpr q) h
      by_cases hk : k ≤ 0
      · rw [bI_t ⟨h, hk⟩, if_pos ⟨h16, by omega⟩]
      · rw [bI_f (fun q => hk q.2), if_neg (by omega)]
        omega
  · unfold coM ctd
    by_cases h : H0
    · rw [bI_f (fun q => q.1 h), if_neg (fun q => e7.mp h q.1)]
      omega
    · have h16 : cal = 1 ∨ cal = 6 := by
        by_cases q : cal = 1 ∨ cal = 6
        · exact q
        · exact absurd (e7.mpr q) h
      have hy0 : y ≠ 0 := hy.resolve_left h
      by_cases hk : y ≤ 0
      · rw [bI_t ⟨h, hk⟩, if_pos ⟨h16, by omega⟩]
      · rw [bI_f (fun q => hk q.2), if_neg (by omega)]
        omega
  · dsimp only
    rw [e7]
    constructor
    · rintro (q | q) z
      · exact q z.1
      · exact q z.2
    · intro q
      by_cases z : cal = 1 ∨ cal = 6
      · exact Or.inr (fun z2 => q ⟨z, z2⟩)
      · exact Or.inl z
theorem lbD_F (k y : Int) : lbD k False y = lb0 (y + k) := by
  unfold lbD
  rw [bI_f (fun h => h)]
  omega
theorem lbD_T (y : Int) : lbD 0 True y = lb7 y := by
  unfold lbD lb7
  rw [bI_t trivial, Int.add_zero]
  omega

theorem YM.c0 (g : Nat → Nat → Int) : YM g 0 (ys 1 (cm (dF 2) 12) (lbD 0 False)) (fun _ => ((12 : Nat) : Int)) (fun pl _ => dF 0 pl.toNat) (laM 1 (cm (dF 2) 12) (dF 2)) (coM True) (yaM True) (fun y => True ∨ y ≠ 0) :=
  YM.month (by decide) (fun h => absurd h (by decide)) rfl (by rw [show plM g 0 = 365 by simp [plM]]; decide +kernel) (fun y => by rw [lbD_F, Int.add_zero]; rfl) (fun k => rfl) (fun k j hj => by rw [dF0_eq j (by omega), maM_p (cal := 0) (by decide) (by decide)]) (fun k j hj => by rw [ln0_eq (lpM g 0 k) j hj, maM_p (cal := 0) (by decide) (by decide)]; rfl) (by simp) (by decide)
theorem YM.c1 (g : Nat → Nat → Int) : YM g 1 (ys (-1) (cm (dF 2) 12) (lbS 1 0 4)) (fun _ => ((12 : Nat) : Int)) (fun pl _ => dF 0 pl.toNat) (laM 1 (cm (dF 2) 12) (dF 2)) (coM False) (yaM False) (fun y => False ∨ y ≠ 0) :=
  YM.month (by decide) (fun h => absurd h (by decide)) rfl (by rw [show plM g 1 = 365 by simp [plM]]; decide +kernel) (fun y => rfl) (fun k => rfl) (fun k j hj => by rw [dF0_eq j (by omega), maM_p (cal := 1) (by decide) (by decide)]) (fun k j hj => by rw [ln0_eq (lpM g 1 k) j hj, maM_p (cal := 1) (by decide) (by decide)]; rfl) (by simp) (by decide)
theorem YM.c3 (g : Nat → Nat → Int) : YM g 3 (ys 103605 (cm (dF 3) 13) (lbS 1 1 4)) (fun _ => ((13 : Nat) : Int)) (fun pl _ => dF 0 pl.toNat) (laM 12 (cm (dF 3) 13) (dF 3)) (coM True) (yaM True) (fun y => True ∨ y ≠ 0) :=
  YM.month (by decide) (fun h => absurd h (by decide)) rfl (by rw [show plM g 3 = 365 by simp [plM]]; decide +kernel) (fun y => rfl) (fun k => rfl) (fun k j hj => by rw [dF0_eq j (by omega), maM_p (cal := 3) (by decide) (by decide)]) (fun k j hj => by rw [ln3_eq (lpM g 3 k) j hj, maM_p (cal := 3) (by decide) (by decide)]; rfl) (by simp) (by decide)
theorem YM.c4 (g : Nat → Nat → Int) : YM g 4 (ys 2796 (cm (dF 3) 13) (lbS 1 1 4)) (fun _ => ((13 : Nat) : Int)) (fun pl _ => dF 0 pl.toNat) (laM 12 (cm (dF 3) 13) (dF 3)) (coM True) (yaM True) (fun y => True ∨ y ≠ 0) :=
  YM.month (by decide) (fun h => absurd h (by decide)) rfl (by rw [show plM g 4 = 365 by simp [plM]]; decide +kernel) (fun y => rfl) (fun k => rfl) (fun k j hj => by rw [dF0_eq j (by omega), maM_p (cal := 4) (by decide) (by decide)]) (fun k j hj => by rw [ln3_eq (lpM g 4 k) j hj, maM_p (cal := 4) (by decide) (by decide)]; rfl) (by simp) (by decide)
theorem YM.c5 (g : Nat → Nat → Int) : YM g 5 (ys 227015 (cm (dF 4) 12) (lbS 11 14 30)) (fun _ => ((12 : Nat) : Int)) (fun pl _ => dF 0 pl.toNat) (laM 11 (cm (dF 4) 12) (dF 4)) (coM True) (yaM True) (fun y => True ∨ y ≠ 0) :=
  YM.month (by decide) (fun h => absurd h (by decide)) rfl (by rw [show plM g 5 = 354 by simp [plM]]; decide +kernel) (fun y => rfl) (fun k => rfl) (fun k j hj => by rw [dF0_eq j (by omega), maM_p (cal := 5) (by decide) (by decide)]) (fun k j hj => by rw [ln5_eq (lpM g 5 k) j hj, maM_p (cal := 5) (by decide) (by decide)]; rfl) (by simp) (by decide)
theorem YM.c6 (g : Nat → Nat → Int) : YM g 6 (ys 226896 (cm (dF 5) 12) lb6) (fun _ => ((12 : Nat) : Int)) (fun pl _ => dF 0 pl.toNat) (laM 11 (cm (dF 5) 12) (dF 5)) (coM False) (yaM False) (fun y => False ∨ y ≠ 0) :=
  YM.month (by decide) (fun h => absurd h (by decide)) rfl (by rw [show plM g 6 = 365 by simp [plM]]; decide +kernel) (fun y => rfl) (fun k => rfl) (fun k j hj => by rw [dF0_eq j (by omega), maM_p (cal := 6) (by decide) (by decide)]) (fun k j hj => by rw [ln6_eq (lpM g 6 k) j hj, maM_p (cal := 6) (by decide) (by decide)]; rfl) (by simp) (by decide)
theorem YM.c7 (g : Nat → Nat → Int) : YM g 7 (ys 654415 (cm (dF 3) 13) (lbD 0 True)) (fun _ => ((13 : Nat) : Int)) (fun pl _ => dF 0 pl.toNat) (laM 12 (cm (dF 3) 13) (dF 3)) (coM True) (yaM True) (fun y => True ∨ y ≠ 0) :=
  YM.month (by decide) (fun h => absurd h (by decide)) rfl (by rw [show plM g 7 = 365 by simp [plM]]; decide +kernel) (fun y => by rw [lbD_T]; rfl) (fun k => rfl) (fun k j hj => by rw [dF0_eq j (by omega), maM_p (cal := 7) (by decide) (by decide)]) (fun k j hj => by rw [ln3_eq (lpM g 7 k) j hj, maM_p (cal := 7) (by decide) (by decide)]; rfl) (by simp) (by decide)
theorem YM.c8 (g : Nat → Nat → Int) : YM g 8 (ys 673222 (cm (dF 6) 20) (lbD 1844 False)) (fun _ => ((20 : Nat) : Int)) (fun pl _ => dF 1 pl.toNat) (laM 18 (cm (dF 6) 20) (dF 6)) (coM True) (yaM True) (fun y => True ∨ y ≠ 0) :=
  YM.month (by decide) (fun h => absurd h (by decide)) rfl (by rw [show plM g 8 = 365 by simp [plM]]; decide +kernel) (fun y => by rw [lbD_F]; rfl) (fun k => rfl) (fun k j hj => by rw [dF1_eq j hj]; rfl) (fun k j hj => by rw [ln8_eq (lpM g 8 k) j hj]; rfl) (by simp) (by decide)
theorem cm_cst {fl : Nat → Int} {v : Int} : ∀ {k : Nat}, (∀ j, j < k → fl j = v) → cm fl k = v * k
  | 0, _ => by show (0 : Int) = v * 0; rw [Int.mul_zero]
  | k + 1, h => by
    show cm fl k + fl k = v * ((k + 1 : Nat) : Int)
    rw [cm_cst (k := k) (fun j hj => h j (by omega)), h k (by omega), show ((k + 1 : Nat) : Int) = (k : Int) + 1 by omega, Int.mul_add, Int.mul_one]
theorem YM.own {g : Nat → Nat → Int} {i : Nat} (hi : i < 2) (ho : OwnOK g i) {fl : Nat → Int} (hfl : ∀ j : Nat, j < Int.toNat (g 3 i) → fl j = g 4 i) :
    YM g (12 + i) (ys (g 5 i) (cm fl (Int.toNat (g 3 i))) (lbS (g 6 i) (g 7 i) (g 8 i))) (fun _ => ((Int.toNat (g 3 i) : Nat) : Int)) (fun pl _ => dF 0 pl.toNat) (laM (g 3 i - 1) (cm fl (Int.toNat (g 3 i))) fl) (coM True) (yaM True) (fun y => True ∨ y ≠ 0) := by
  have e0 : Int.toNat ((12 : Int) + i - 12) = i := by omega
  obtain ⟨o1, o2, o3, o4, o5, o6⟩ := ho
  have hc : ((12 : Int) + i = 12 ∨ (12 : Int) + i = 13) := by omega
  have hpl : cm fl (Int.toNat (g 3 i)) = plM g (12 + i) := by
    rw [cm_cst hfl, show ((Int.toNat (g 3 i) : Nat) : Int) = g 3 i by omega, Int.mul_comm]
    unfold plM
    rw [if_neg (by omega)]
    rcases hc with q | q
    · rw [if_pos q, e0]
    · rw [if_neg (by omega), if_pos q, e0]
  refine YM.month (by omega) (fun _ => by rw [e0]; exact ⟨o1, o2, o3, o4, o5, o6⟩) ?_ hpl (fun y => ?_) (fun k => ?_) (fun k j hj => ?_) (fun k j hj => ?_) (by simp; omega) o3
  · unfold epM
    rw [if_neg (by omega), if_neg (by omega), if_neg (by omega), if_neg (by omega), if_neg (by omega), if_neg (by omega), if_neg (by omega), if_neg (by omega), e0]
  · unfold lbM
    rw [if_neg (by omega), if_neg (by omega), if_neg (by omega), if_neg (by omega), if_neg (by omega), if_neg (by omega), if_neg (by omega), if_neg (by omega), e0]
  · unfold nmM
    rw [if_neg (by omega), if_neg (by omega), if_neg (by omega), if_neg (by omega), if_neg (by omega), if_pos (by omega), e0]
    omega
  · have key : ∀ j : Nat, j < 20 → dF 0 j = (j : Int) + 1 := by decide +kernel
    rw [key j (by omega), maM_p (by omega) (by omega)]
  · rw [maM_p (by omega) (by omega)]
    unfold lnM
    rw [if_neg (by omega), if_neg (by omega), if_neg (by omega), if_neg (by omega), if_neg (by omega), if_neg (by omega), if_neg (by omega), if_neg (by omega), if_neg (by omega), e0]
    unfold lnO
    rw [hfl j hj]
    congr 1
    exact bI_iff ⟨fun q => ⟨by omega, q.2⟩, fun q => ⟨by omega, q.2⟩⟩
theorem YM.moon (g : Nat → Nat → Int) (hS1 : -2000000 ≤ hst 1 ∧ hst 1 ≤ 2000000) : YM g 9 hst nmH maH laH (fun y => y) (fun y => y) (fun _ => True) := by
  have leap : ∀ k, 355 < hst (k + 1) - hst k ↔ yl9 k := fun k => by
    rcases hst_len k with ⟨q, q1, q2⟩ | ⟨q, q1, q2⟩
    · exact ⟨fun _ => q, fun _ => by omega⟩
    · exact ⟨fun _ => by omega, fun z => absurd z q⟩
  have hn9 : ∀ k, nmM g 9 k = 12 + bI (yl9 k) := fun k => by unfold nmM; simp
  have hma : ∀ (k : Int) (j : Nat), (j : Int) < 12 + bI (yl9 k) → maH j (hst (k + 1) - hst k) = maM 9 k j := fun k j hj => by
    rw [maM_9]
    unfold maH
    by_cases hl : yl9 k
    · rw [bI_t hl] at hj ⊢
      have h5 := (leap k).mpr hl
      by_cases h6 : (j : Int) < 6
      · rw [if_pos h6, if_pos (by omega)]
      · rw [if_neg h6, if_pos h5]
        by_cases h7 : (j : Int) = 6
        · rw [if_pos h7, if_pos (by omega)]; omega
        · rw [if_neg h7, if_neg (by omega)]; omega
    · rw [bI_f hl] at hj ⊢
      have h5 : ¬ 355 < hst (k + 1) - hst k := fun z => hl ((leap k).mp z)
      by_cases h6 : (j : Int) < 6
      · rw [if_pos h6, if_pos (by omega)]
      · rw [if_neg h6, if_neg h5, if_neg (by omega)]; omega
  refine ⟨by decide, rfl, fun k => ⟨?_, fun j hj => ?_⟩, maM_inj (by decide), fun k => ?_, fun y _ => ?_, fun y => ?_, hS1⟩
  · rw [hn9]
    unfold nmH
    rw [bI_iff (leap k)]
  · rw [hn9] at hj
    have h1 := hma k j hj
    refine ⟨h1, ?_⟩
    unfold laH
    rw [h1]
    have hM : 1 ≤ maM 9 k j ∧ maM 9 k j ≤ 13 := by
      have := bI_01 (yl9 k)
      rw [maM_9]
      split <;> omega
    have hln : lnM g 9 k (maM 9 k j) = mlM k (lpM g 9 k) (maM 9 k j) := by
      unfold lnM
      rw [if_neg (by decide), if_neg (by decide), if_neg (by decide), if_neg (by decide), if_neg (by decide), if_neg (by decide), if_neg (by decide), if_neg (by decide), if_pos rfl]
    rw [hln]
    unfold mlH mlM
    have hlp : lpM g 9 k ↔ yl9 k := by unfold lpM; simp
    rw [bI_iff (leap k), ← bI_iff hlp]
    generalize maM 9 k j = M at hM ⊢
    by_cases a1 : M = 8
    · rw [if_pos a1, if_pos a1]
    rw [if_neg a1, if_neg a1]
    by_cases a2 : M = 9
    · rw [if_pos a2, if_pos a2]
    rw [if_neg a2, if_neg a2]
    by_cases a3 : M = 12
    · rw [if_pos a3, if_pos a3]
    rw [if_neg a3, if_neg a3]
    by_cases a4 : M = 7 ∨ M = 11 ∨ M = 1 ∨ M = 3 ∨ M = 5
    · rw [if_pos a4, if_neg (by omega)]
    · rw [if_neg a4, if_pos (by omega)]
  · unfold nmd; rw [if_neg (by omega)]
  · unfold ctd; rw [if_neg (by omega)]
  · simp
