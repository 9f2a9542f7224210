/-! 69.eqC: laid by program (wip/whole) -/
theorem hst_one : -2000000 ≤ hst 1 ∧ hst 1 ≤ 2000000 := by
  have h1 : hmo 1 = 0 := by decide
  have h2 : hea 0 = 0 := by decide
  have h3 := bI_01 ((3 * (0 : Int) + 3) % 7 < 3)
  have h4 : 0 ≤ hla 1 ∧ hla 1 ≤ 2 := by
    unfold hla
    split
    · decide
    · split <;> decide
  unfold hst hel hpo
  rw [h1, h2]
  omega
theorem CalOK.week {g : Nat → Nat → Int} {S : Int → Int} (hC : Cok S (fun d => Int.tdiv d 7) (fun pl _ => pl + 1) (fun _ _ => 7) (fun y => y) (fun y => y)) (hS : S = stM g 2) (hS1 : -2000000 ≤ S 1 ∧ S 1 ≤ 2000000) : CalOK g 2 (DTY S (fun d => Int.tdiv d 7) (fun pl _ => pl + 1) (fun _ _ => 7) (fun y => y)) (DYY S (fun d => Int.tdiv d 7) (fun pl _ => pl + 1) (fun _ _ => 7) (fun y => y) (fun _ => True)) 60000000 := by
  obtain ⟨c1, c2, c3, c4, c5, c6, c7⟩ := hC
  have cm7 : ∀ k : Nat, cm (fun _ => (7 : Int)) k = 7 * k := fun k => cm_cst (fun j _ => rfl)
  have wk : ∀ k, ∃ w : Int, (1 ≤ w ∧ w ≤ 60) ∧ S (k + 1) - S k = 7 * w ∧ Int.tdiv (S (k + 1) - S k) 7 = w := fun k => by
    obtain ⟨q1, q2, -, q4⟩ := c3 k
    dsimp only at q1 q2 q4
    rw [cm7] at q4
    exact ⟨Int.tdiv (S (k + 1) - S k) 7, ⟨q1, q2⟩, by omega, rfl⟩
  let T : Int → Int := fun d => Classical.choose (c1.ex d)
  have hT : ∀ d, S (T d) ≤ d ∧ d < S (T d + 1) := fun d => Classical.choose_spec (c1.ex d)
  refine ⟨T, fun d => (d - S (T d)) / 7 + 1, fun d => (d - S (T d)) % 7 + 1, fun d hd => ?_, fun d d' h1 h2 h3 => ?_, fun y mn dd hyr => ?_⟩
  · obtain ⟨t1, t2⟩ := hT d
    obtain ⟨w, w1, w2, w3⟩ := wk (T d)
    have hk1 : -67108864 ≤ T d ∧ T d ≤ 67108864 := by
      constructor
      · refine c1.le_of (a := -67108864) (b := T d) (d := d) (by omega) t2
      · have := c1.lt_of (a := T d) (b := 67108864) (d := d) t1 (by omega)
        omega
    dsimp only
    refine ⟨⟨T d, _, Int.toNat ((d - S (T d)) / 7), ⟨t1, t2⟩, rfl, by dsimp only; rw [w3]; omega, ⟨by rw [cm7]; omega, by rw [cm7]; omega⟩, ?_⟩, ?_, by omega, by omega, by omega, fun hd2 => ?_⟩
    · dsimp only
      rw [cm7]
      omega
    · unfold DTM
      refine Or.inr (Or.inr (Or.inl ⟨rfl, T d, ?_, rfl, ?_, ?_⟩))
      · rw [← hS]; exact ⟨t1, t2⟩
      · rw [← hS]
      · rw [← hS]
    · have a1 : T d ≤ 40000000 := by
        by_cases q : 1 ≤ T d
        · have := c1.gap q; omega
        · omega
      have a2 : -40000000 ≤ T d := by
        by_cases q : T d + 1 ≤ 1
        · have := c1.gap q; omega
        · omega
      omega
  · obtain ⟨t1, t2⟩ := hT d
    obtain ⟨u1, u2⟩ := hT d'
    have q1 : T d ≤ T d' := c1.le_of (a := T d) (b := T d') (d := d') (by omega) u2
    refine ⟨q1, ?_⟩
    by_cases z : T d + 1 ≤ T d'
    · have := c1.gap z; omega
    · omega
  · have hr := c6 y (by omega)
    obtain ⟨w, w1, w2, w3⟩ := wk y
    have ec : ctd 2 y = y := by unfold ctd; rw [if_neg (by omega)]
    have hD : ∀ r, DOM g 2 y mn dd r ↔ (if dd < 1 then r = -9223372036854775808 else (if 1 ≤ mn ∧ dd ≤ 7 ∧ S y + 7 * (mn - 1) + dd - 1 < S (y + 1) then r = S y + 7 * (mn - 1) + dd - 1 else r = -9223372036854775808)) := fun r => by
      unfold DOM
      rw [ec, ← hS]
      by_cases q : dd < 1
      · rw [if_pos (Or.inr q), if_pos q]
      · rw [if_neg (by omega), if_neg q, if_neg (show ¬ (2 : Int) = 10 by decide), if_neg (show ¬ (2 : Int) = 11 by decide), if_pos rfl]
    have bk : ∀ d, T d = y → (d - S (T d)) / 7 + 1 = mn → (d - S (T d)) % 7 + 1 = dd → d = S y + 7 * (mn - 1) + dd - 1 ∧ (1 ≤ mn ∧ mn ≤ w) ∧ (1 ≤ dd ∧ dd ≤ 7) := fun d z1 z2 z3 => by
      obtain ⟨t1, t2⟩ := hT d
      rw [z1] at z2 z3 t1 t2
      refine ⟨by omega, by omega, by omega⟩
    by_cases q1 : (1 ≤ mn ∧ mn ≤ w) ∧ (1 ≤ dd ∧ dd ≤ 7)
    · refine ⟨S y + 7 * (mn - 1) + dd - 1, ?_, ?_, Or.inr (by omega), fun d hd => ⟨fun z => ?_, fun z => ?_⟩⟩
      · refine Or.inr ⟨trivial, Or.inl ⟨Int.toNat (mn - 1), by dsimp only; rw [w3]; omega, by dsimp only; omega, fun j hj => by dsimp only; omega, Or.inl ⟨by dsimp only; omega, ?_⟩⟩⟩
        dsimp only
        rw [cm7]
        omega
      · rw [hD, if_neg (by omega), if_pos (by omega)]
      · have e1 : T d = y := c1.uniq (hT d).1 (hT d).2 (by omega) (by omega)
        dsimp only
        rw [e1]
        exact ⟨rfl, by omega, by omega⟩
      · exact (bk d z.1 z.2.1 z.2.2).1.symm
    · refine ⟨-9223372036854775808, ?_, ?_, Or.inl rfl, fun d hd => ⟨fun z => by omega, fun z => absurd (bk d z.1 z.2.1 z.2.2).2 q1⟩⟩
      · by_cases q2 : 1 ≤ mn ∧ mn ≤ w
        · exact Or.inr ⟨trivial, Or.inl ⟨Int.toNat (mn - 1), by dsimp only; rw [w3]; omega, by dsimp only; omega, fun j hj => by dsimp only; omega, Or.inr ⟨by dsimp only; omega, rfl⟩⟩⟩
        · exact Or.inr ⟨trivial, Or.inr ⟨fun j hj => by dsimp only at hj ⊢; rw [w3] at hj; omega, rfl⟩⟩
      · rw [hD]
        by_cases q2 : dd < 1
        · rw [if_pos q2]
        · rw [if_neg q2, if_neg (by omega)]
/-! the sun's months -/
theorem su_at {t K dd : Int} (hK : suK t = K) (hd : suD t = dd) : t = -(-(K * 210389 - 1728) / 6912) - 1132959 + dd - 1 ∧ 1 ≤ dd ∧ dd ≤ 31 := by
  unfold suK suP at hK
  unfold suD suP at hd
  omega
theorem suD_rng (t : Int) : 1 ≤ suD t ∧ suD t ≤ 31 := by
  unfold suD suP
  omega
theorem su_near {K dd : Int} : K * 210389 / 6912 - 1132959 + dd - 3 ≤ -(-(K * 210389 - 1728) / 6912) - 1132959 + dd - 1 ∧ -(-(K * 210389 - 1728) / 6912) - 1132959 + dd - 1 ≤ K * 210389 / 6912 - 1132959 + dd + 3 := by
  omega
theorem suK_mono {d d' : Int} (h : d ≤ d') : suK d ≤ suK d' ∧ suK d' ≤ suK d + (d' - d) + 1 := by
  unfold suK suP
  omega
theorem suK_rng {d : Int} (h : -45000000 ≤ d ∧ d ≤ 45000000) : -1600000 ≤ suK d ∧ suK d ≤ 1600000 := by
  unfold suK suP
  omega
theorem mt_su {y mn dd t : Int} : mtS 10 y mn dd t ↔ (suK t = 12 * y + mn - 1 ∧ (1 ≤ mn ∧ mn ≤ 12)) ∧ suD t = dd := by
  unfold mtS sY sM sD
  rw [if_pos rfl, if_pos rfl, if_pos rfl]
  constructor
  · rintro ⟨h1, h2, h3⟩
    exact ⟨⟨by omega, by omega⟩, h3⟩
  · rintro ⟨⟨h1, h2⟩, h3⟩
    exact ⟨by omega, by omega, h3⟩
theorem dyS_iff {y mn dd t : Int} (ht : t ≠ -9223372036854775808) : dyS y mn dd = t ↔ mtS 10 y mn dd t := by
  rw [mt_su]
  constructor
  · intro h
    unfold dyS at h
    split at h
    · rename_i hc
      subst h
      obtain ⟨⟨a1, a2, a3, a4⟩, h2⟩ := hc
      have h3 := suD_rng (dyS0 y mn dd)
      unfold dtS at h2
      generalize dyS0 y mn dd = t0 at h2 h3 ⊢
      generalize suD t0 = D0 at h2 h3 ⊢
      generalize suK t0 = K0 at h2 ⊢
      exact ⟨⟨by omega, a1, a2⟩, by omega⟩
    · exact absurd h.symm ht
  · rintro ⟨⟨h1, h2⟩, h3⟩
    obtain ⟨a1, a2, a3⟩ := su_at h1 h3
    have e1 : dyS0 y mn dd = t := a1.symm
    unfold dyS
    rw [e1, if_pos]
    refine ⟨⟨h2.1, h2.2, a2, a3⟩, ?_⟩
    unfold dtS
    rw [h1, h3]
    omega
theorem dyS_no {y mn dd : Int} (h : ∀ t, ¬ mtS 10 y mn dd t) : dyS y mn dd = -9223372036854775808 := by
  by_cases q : dyS y mn dd = -9223372036854775808
  · exact q
  · exact absurd ((dyS_iff q).mp rfl) (h _)
theorem CalOK.sun (g : Nat → Nat → Int) : CalOK g 10 (fun d x => x = dtS d) (fun y mth dd r => (-200000 ≤ y ∧ y ≤ 200000) ∧ r = dyS y mth dd) 200000 := by
  refine ⟨fun d => suK d / 12, fun d => suK d % 12 + 1, fun d => suD d, fun d hd => ?_, fun d d' h1 h2 h3 => ?_, fun y mn dd hyr => ?_⟩
  · have a1 := suK_rng hd
    have a2 := suD_rng d
    exact ⟨rfl, Or.inl ⟨rfl, rfl, rfl, rfl⟩, by dsimp only; omega, by dsimp only; omega, by dsimp only; omega, fun _ => by dsimp only; omega⟩
  · have := suK_mono h2
    dsimp only
    omega
  · have hm : ∀ d, (suK d / 12 = y ∧ suK d % 12 + 1 = mn ∧ suD d = dd) ↔ mtS 10 y mn dd d := fun d => by
      unfold mtS sY sM sD
      rw [if_pos rfl, if_pos rfl, if_pos rfl]
    have hno : (r : Int) → (∀ t, ¬ mtS 10 y mn dd t) → r = -9223372036854775808 → DOM g 10 y mn dd r := fun r h e => by
      unfold DOM
      by_cases q : ((10 = (1 : Int) ∨ (10 : Int) = 6) ∧ y = 0) ∨ dd < 1
      · rw [if_pos q]; exact e
      · rw [if_neg q, if_pos rfl]
        split
        · exact Or.inr ⟨fun t _ _ => h t, e⟩
        · exact e
    by_cases q : ∃ t, mtS 10 y mn dd t
    · obtain ⟨t, ht⟩ := q
      have ht2 := mt_su.mp ht
      obtain ⟨a1, a2, a3⟩ := su_at ht2.1.1 ht2.2
      have hb : -1000000000000 ≤ t ∧ t ≤ 1000000000000 := by
        have b1 := ht2.1
        clear ht2 ht hno hm
        omega
      have e1 := (dyS_iff (by omega)).mpr ht
      refine ⟨t, ⟨hyr, e1.symm⟩, ?_, Or.inr (by omega), fun d hd => ⟨fun z => by subst z; exact (hm _).mpr ht, fun z => ?_⟩⟩
      · unfold DOM
        rw [if_neg (by omega), if_pos rfl, if_pos ⟨ht2.1.2.1, ht2.1.2.2, by omega⟩]
        have hn := su_near (K := 12 * y + mn - 1) (dd := dd)
        rw [← a1] at hn
        refine Or.inl ⟨ht, hn, fun t9 _ h9 h10 => ?_⟩
        have b1 := mt_su.mp h10
        have := (su_at b1.1.1 b1.2).1
        omega
      · have b1 := mt_su.mp ((hm d).mp z)
        have := (su_at b1.1.1 b1.2).1
        omega
    · have q2 : ∀ t, ¬ mtS 10 y mn dd t := fun t ht => q ⟨t, ht⟩
      exact ⟨-9223372036854775808, ⟨hyr, (dyS_no q2).symm⟩, hno _ q2 rfl, Or.inl rfl, fun d hd => ⟨fun z => by omega, fun z => absurd ((hm d).mp z) (q2 d)⟩⟩

