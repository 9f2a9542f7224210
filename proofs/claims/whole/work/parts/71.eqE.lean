/-! 71.eqE: laid by program (wip/whole) -/
/-! meeting, when -/
theorem mt_ex (pl ot d : Int) : ∃ x, MTC pl ot d x ∧ MTM pl ot d x ∧ -2147483648 ≤ x ∧ x ≤ 2147483647 := by
  by_cases hv : (0 ≤ pl ∧ pl ≤ 364) ∧ (0 ≤ ot ∧ ot ≤ 259) ∧ (-40000000 ≤ d ∧ d ≤ 40000000)
  · have hf : (f0M pl d + 1137490) % 365 = pl ∧ 0 ≤ d - f0M pl d ∧ d - f0M pl d < 365 := by
      unfold f0M
      omega
    generalize hf0 : f0M pl d = f at hf
    have onw : ∀ t : Int, (t + 1137490) % 365 = pl → t ≤ d → ∃ i : Int, 0 ≤ i ∧ t = f - 365 * i := fun t h1 h2 => ⟨(f - t) / 365, by omega, by omega⟩
    rcases first_or (fun i => (f - 365 * (i : Int) + 1137302) % 260 = ot) 52 with ⟨i, i1, i2, i3⟩ | hno
    · by_cases hr : -40000000 ≤ f - 365 * (i : Int) ∧ f - 365 * (i : Int) ≤ 40000000
      · refine ⟨f - 365 * (i : Int), Or.inr ⟨hv, Or.inl ⟨i, by omega, by rw [hf0]; exact i2, fun j h1 h2 => ?_, ?_⟩⟩, Or.inr ⟨hv, Or.inl ⟨d - (f - 365 * (i : Int)), by omega, ⟨by omega, by omega, ?_⟩, fun j h1 h2 h3 => ?_, by omega⟩⟩, by omega, by omega⟩
        · rw [hf0]
          have := i3 (Int.toNat j) (by omega)
          rw [show ((Int.toNat j : Nat) : Int) = j by omega] at this
          exact this
        · rw [hf0, if_pos hr]
        · rw [show d - (d - (f - 365 * (i : Int))) = f - 365 * (i : Int) by omega]
          exact i2
        · obtain ⟨k, k1, k2⟩ := onw (d - j) h3.2.1 (by omega)
          have h4 := h3.2.2
          rw [k2] at h4
          have := i3 (Int.toNat k) (by omega)
          rw [show ((Int.toNat k : Nat) : Int) = k by omega] at this
          exact this h4
      · refine ⟨-2147483648, Or.inr ⟨hv, Or.inl ⟨i, by omega, by rw [hf0]; exact i2, fun j h1 h2 => ?_, ?_⟩⟩, Or.inr ⟨hv, Or.inr ⟨fun k h1 h2 h3 => ?_, rfl⟩⟩, by omega, by omega⟩
        · rw [hf0]
          have := i3 (Int.toNat j) (by omega)
          rw [show ((Int.toNat j : Nat) : Int) = j by omega] at this
          exact this
        · rw [hf0, if_neg hr]
        · obtain ⟨q, k1, k2⟩ := onw (d - k) h3.2.1 (by omega)
          have h4 := h3.2.2
          rw [k2] at h4
          have h5 := h3.1
          have : ¬ q < (i : Int) := fun z => by
            have := i3 (Int.toNat q) (by omega)
            rw [show ((Int.toNat q : Nat) : Int) = q by omega] at this
            exact this h4
          omega
    · refine ⟨-2147483648, Or.inr ⟨hv, Or.inr ⟨fun i h1 h2 => ?_, rfl⟩⟩, Or.inr ⟨hv, Or.inr ⟨fun k h1 h2 h3 => ?_, rfl⟩⟩, by omega, by omega⟩
      · rw [hf0]
        have := hno (Int.toNat i) (by omega)
        rw [show ((Int.toNat i : Nat) : Int) = i by omega] at this
        exact this
      · obtain ⟨q, k1, k2⟩ := onw (d - k) h3.2.1 (by omega)
        have h4 := h3.2.2
        rw [k2] at h4
        have := hno (Int.toNat q) (by omega)
        rw [show ((Int.toNat q : Nat) : Int) = q by omega] at this
        exact this h4
  · exact ⟨-2147483648, Or.inl ⟨hv, rfl⟩, Or.inl ⟨hv, rfl⟩, by omega, by omega⟩
theorem cm_tail {f : Nat → Int} {k : Nat} : ∀ {n : Nat}, k ≤ n → (∀ i, k ≤ i → i < n → f i = 0) → cm f n = cm f k
  | 0, h, _ => by rw [show k = 0 by omega]
  | n + 1, h, h2 => by
    by_cases q : k = n + 1
    · rw [q]
    · show cm f n + f n = cm f k
      rw [cm_tail (n := n) (by omega) (fun i a b => h2 i a (by omega)), h2 n (by omega) (by omega)]
      omega
/-- the days of a stretch that have a date, and the years that have it there -/
theorem wh_ex {fY fM fD fr : Int → Int} {mn dd a b k : Int} (hab : a < b) (mono : ∀ d d', a ≤ d → d ≤ d' → d' < b → fY d ≤ fY d') (hlo : -50000000 ≤ fY a) (hhi : fY (b - 1) ≤ 50000000)
    (hfr : ∀ t d, fY a ≤ t → t ≤ fY (b - 1) → a ≤ d → d < b → (fr t = d ↔ (fY d = t ∧ fM d = mn ∧ fD d = dd))) :
    ∃ tt x, WHM (fun t => bI (a ≤ fr t ∧ fr t ≤ b - 1)) (fun _ => 0) 1 0 (fY a) (fY (b - 1) + 1) k tt ∧ ((tt = -2147483648 ∧ x = -2147483648) ∨ (tt ≠ -2147483648 ∧ x = fr tt)) ∧ WHM fM fD mn dd a b k x := by
  let MD : Int → Prop := fun d => mtW fM fD mn dd d
  let NN : Int → Int := fun d => cm (fun i => bI (a ≤ fr (fY a + i) ∧ fr (fY a + i) < d)) (fY (b - 1) + 1 - fY a).toNat
  have hY : fY a ≤ fY (b - 1) := mono a (b - 1) (Int.le_refl _) (by omega) (by omega)
  have hN0 : NN a = 0 := by
    have : cm (fun i => bI (a ≤ fr (fY a + i) ∧ fr (fY a + i) < a)) (fY (b - 1) + 1 - fY a).toNat = cm (fun i => bI (a ≤ fr (fY a + i) ∧ fr (fY a + i) < a)) 0 := cm_tail (Nat.zero_le _) (fun i _ _ => bI_f (fun q => by omega))
    exact this
  have hN1 : ∀ d, a ≤ d → d < b → NN (d + 1) = NN d + bI (MD d) := fun d h1 h2 => by
    have e1 : cm (fun i => bI (a ≤ fr (fY a + i) ∧ fr (fY a + i) < d + 1)) (fY (b - 1) + 1 - fY a).toNat = cm (fun i => bI (a ≤ fr (fY a + i) ∧ fr (fY a + i) < d) + bI ((i : Int) = fY d - fY a ∧ MD d)) (fY (b - 1) + 1 - fY a).toNat := by
      refine cm_congr (fun i hi => ?_)
      have hq := hfr (fY a + i) d (by omega) (by omega) h1 h2
      have hmd : MD d ↔ (fM d = mn ∧ fD d = dd) := Iff.rfl
      by_cases z : fr (fY a + i) = d
      · have z2 := hq.mp z
        rw [bI_t (show a ≤ fr (fY a + i) ∧ fr (fY a + i) < d + 1 by omega), bI_f (show ¬ (a ≤ fr (fY a + i) ∧ fr (fY a + i) < d) by omega), bI_t (show (i : Int) = fY d - fY a ∧ MD d from ⟨by omega, z2.2⟩)]
        rfl
      · rw [bI_f (show ¬ ((i : Int) = fY d - fY a ∧ MD d) from fun q => z (hq.mpr ⟨by omega, q.2⟩)), Int.add_zero]
        exact bI_iff ⟨fun q => by omega, fun q => by omega⟩
    have e2 := cm_bump (f := fun i => bI (a ≤ fr (fY a + i) ∧ fr (fY a + i) < d)) (lp := fY d - fY a) (A := MD d) (by have := mono a d (Int.le_refl _) h1 h2; omega) (fY (b - 1) + 1 - fY a).toNat
    have h3 := mono d (b - 1) h1 (by omega) (by omega)
    have h4 := mono a d (Int.le_refl _) h1 h2
    show cm (fun i => bI (a ≤ fr (fY a + i) ∧ fr (fY a + i) < d + 1)) (fY (b - 1) + 1 - fY a).toNat = _
    rw [e1, e2]
    show NN d + _ = NN d + _
    congr 1
    exact bI_iff ⟨fun q => q.2, fun q => ⟨by omega, q⟩⟩
  have hN : ∀ n : Nat, a + n ≤ b → cnW fM fD mn dd a n = NN (a + n) := by
    intro n
    induction n with
    | zero =>
      intro _
      rw [show a + ((0 : Nat) : Int) = a by omega, hN0]
      rfl
    | succ n ih =>
      intro h
      rw [show a + ((n + 1 : Nat) : Int) = a + n + 1 by omega, hN1 (a + n) (by omega) (by omega), ← ih (by omega)]
      rfl
  have hcnt : ∀ d, a ≤ d → d < b → MD d → cnW (fun t => bI (a ≤ fr t ∧ fr t ≤ b - 1)) (fun _ => 0) 1 0 (fY a) (fY d - fY a).toNat = cnW fM fD mn dd a (d - a).toNat := fun d h1 h2 h3 => by
    have m1 := mono a d (Int.le_refl _) h1 h2
    have m2 := mono d (b - 1) h1 (by omega) (by omega)
    have hd : fr (fY d) = d := (hfr (fY d) d m1 m2 h1 h2).mpr ⟨rfl, h3⟩
    rw [hN (d - a).toNat (by omega), show a + (((d - a).toNat : Nat) : Int) = d by omega]
    have e1 : NN d = cm (fun i => bI (a ≤ fr (fY a + i) ∧ fr (fY a + i) < d)) (fY d - fY a).toNat := by
      refine cm_tail (by omega) (fun i i1 i2 => bI_f (fun q => ?_))
      have q2 := (hfr (fY a + i) (fr (fY a + i)) (by omega) (by omega) q.1 (by omega)).mp rfl
      have q3 := mono (fr (fY a + i)) d q.1 (by omega) h2
      have q4 : fY a + i = fY d := by omega
      rw [q4, hd] at q
      omega
    rw [e1]
    refine cm_congr (fun i hi => bI_iff ⟨fun q => ?_, fun q => ?_⟩)
    · have q1 : a ≤ fr (fY a + i) ∧ fr (fY a + i) ≤ b - 1 := by
        by_cases z : a ≤ fr (fY a + i) ∧ fr (fY a + i) ≤ b - 1
        · exact z
        · have := q.1
          dsimp only at this
          rw [bI_f z] at this
          omega
      refine ⟨q1.1, ?_⟩
      by_cases z : fr (fY a + i) < d
      · exact z
      · exfalso
        have q2 := (hfr (fY a + i) (fr (fY a + i)) (by omega) (by omega) q1.1 (by omega)).mp rfl
        have q3 := mono d (fr (fY a + i)) h1 (by omega) (by omega)
        omega
    · exact ⟨by dsimp only; rw [bI_t ⟨q.1, by omega⟩], rfl⟩
  by_cases q : ∃ d, (a ≤ d ∧ d < b) ∧ MD d ∧ cnW fM fD mn dd a (d - a).toNat = k
  · obtain ⟨d, ⟨h1, h2⟩, h3, h4⟩ := q
    have m1 := mono a d (Int.le_refl _) h1 h2
    have m2 := mono d (b - 1) h1 (by omega) (by omega)
    have hd : fr (fY d) = d := (hfr (fY d) d m1 m2 h1 h2).mpr ⟨rfl, h3⟩
    refine ⟨fY d, d, Or.inl ⟨fY d, ⟨m1, by omega⟩, ⟨?_, rfl⟩, (hcnt d h1 h2 h3).trans h4, rfl⟩, Or.inr ⟨by omega, hd.symm⟩, Or.inl ⟨d, ⟨h1, h2⟩, h3, h4, rfl⟩⟩
    dsimp only
    rw [hd, bI_t (by omega)]
  · refine ⟨-2147483648, -2147483648, Or.inr ⟨fun t h1 h2 h3 h4 => ?_, rfl⟩, Or.inl ⟨rfl, rfl⟩, Or.inr ⟨fun t h1 h2 h3 h4 => q ⟨t, ⟨h1, h2⟩, h3, h4⟩, rfl⟩⟩
    have q1 : a ≤ fr t ∧ fr t ≤ b - 1 := by
      by_cases z : a ≤ fr t ∧ fr t ≤ b - 1
      · exact z
      · have := h3.1
        dsimp only at this
        rw [bI_f z] at this
        omega
    have q2 := (hfr t (fr t) h1 (by omega) q1.1 (by omega)).mp rfl
    refine q ⟨fr t, ⟨q1.1, by omega⟩, q2.2, ?_⟩
    rw [← hcnt (fr t) q1.1 (by omega) q2.2, q2.1]
    exact h4

