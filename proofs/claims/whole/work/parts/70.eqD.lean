/-! 70.eqD: laid by program (wip/whole) -/
/-! the moon's months -/
theorem lu_c {d r K : Int} (h0 : 0 ≤ r ∧ r < 53433336) (hK : 53433336 * K - 53433336 < 53433336 * d + r ∧ 53433336 * d + r ≤ 53433336 * K) : (r = 0 ∧ K = d) ∨ (0 < r ∧ K = d + 1) := by
  omega
theorem lu_w {d r K w m lf : Int} (h1 : m * 51840000 = 53433336 * d + r ∧ 0 ≤ r ∧ r < 53433336) (hK : (r = 0 ∧ K = d) ∨ (0 < r ∧ K = d + 1)) (h2 : w * 51840000 ≤ K * 53433336 ∧ K * 53433336 < w * 51840000 + 51840000) (hl : ((1 ≤ r ∧ r ≤ 1593336) ∧ lf = 1) ∨ (¬ (1 ≤ r ∧ r ≤ 1593336) ∧ lf = 0)) : m = w - lf := by
  rcases hK with ⟨k1, rfl⟩ | ⟨k1, rfl⟩
  · have e1 : lf = 0 := by omega
    subst e1
    subst k1
    clear hl
    omega
  · rcases hl with ⟨l1, rfl⟩ | ⟨l1, rfl⟩
    · omega
    · have : 1593336 < r := by omega
      clear l1
      omega
theorem lu_m {m K lf : Int} (h : -(-(m * 51840000) / 53433336) = K) (hl : ((1 ≤ (m * 51840000) % 53433336 ∧ (m * 51840000) % 53433336 ≤ 1593336) ∧ lf = 1) ∨ (¬ (1 ≤ (m * 51840000) % 53433336 ∧ (m * 51840000) % 53433336 ≤ 1593336) ∧ lf = 0)) : m = K * 53433336 / 51840000 - lf := by
  have e1 := Int.mul_ediv_add_emod (m * 51840000) 53433336
  have e2 := Int.emod_nonneg (m * 51840000) (show (53433336 : Int) ≠ 0 by decide)
  have e3 := Int.emod_lt_of_pos (m * 51840000) (show (0 : Int) < 53433336 by decide)
  have e4 := Int.mul_ediv_add_emod (-(m * 51840000)) 53433336
  have e5 := Int.emod_nonneg (-(m * 51840000)) (show (53433336 : Int) ≠ 0 by decide)
  have e6 := Int.emod_lt_of_pos (-(m * 51840000)) (show (0 : Int) < 53433336 by decide)
  have e7 := Int.mul_ediv_add_emod (K * 53433336) 51840000
  have e8 := Int.emod_nonneg (K * 53433336) (show (51840000 : Int) ≠ 0 by decide)
  have e9 := Int.emod_lt_of_pos (K * 53433336) (show (0 : Int) < 51840000 by decide)
  generalize (m * 51840000) % 53433336 = r at *
  generalize (m * 51840000) / 53433336 = d at *
  generalize (-(m * 51840000)) % 53433336 = r2 at *
  generalize hx : (-(m * 51840000)) / 53433336 = x at *
  generalize (K * 53433336) % 51840000 = r3 at *
  generalize (K * 53433336) / 51840000 = w at *
  refine lu_w (d := d) (r := r) (K := K) ⟨by omega, e2, e3⟩ (lu_c ⟨e2, e3⟩ ⟨?_, ?_⟩) ⟨by omega, by omega⟩ hl
  · clear hl e7 e8 e9
    omega
  · clear hl e7 e8 e9
    omega
theorem lu_E {n : Int} : n * 1603000080 / 6311670000 / 30 = n * 53433336 / 6311670000 := by
  omega
theorem lu_q {t : Int} : t = -(-(-(-((4 * (t + 1132959) + 1) * 1603000080 / 6311670000 * 6311670000) / 1603000080) - 1) / 4) - 1132959 := by
  generalize hn : t + 1132959 = u
  have ht : t = u - 1132959 := by omega
  generalize hE : (4 * u + 1) * 1603000080 / 6311670000 = E
  generalize hv : -(E * 6311670000) / 1603000080 = v
  have h1 : E * 6311670000 ≤ (4 * u + 1) * 1603000080 ∧ (4 * u + 1) * 1603000080 < E * 6311670000 + 6311670000 := by omega
  have h2 : v * 1603000080 ≤ -(E * 6311670000) ∧ -(E * 6311670000) < v * 1603000080 + 1603000080 := by omega
  have h3 : -v ≤ 4 * u + 1 ∧ 4 * u + 1 - 4 < -v := by omega
  omega
theorem luD_rng (t : Int) : 1 ≤ luD t ∧ luD t ≤ 30 := by
  unfold luD
  omega
theorem lu_at {t K lf dd : Int} (hK : luC t = K) (hl : (luL t ∧ lf = 1) ∨ (¬ luL t ∧ lf = 0)) (hd : luD t = dd) : t = qdL (30 * (K * 53433336 / 51840000 - lf) + dd - 1) := by
  unfold luC luQ at hK
  unfold luL luB luQ at hl
  have h1 := lu_m hK hl
  unfold luD at hd
  have h2 := lu_E (n := luN t)
  have h3 : 30 * (K * 53433336 / 51840000 - lf) + dd - 1 = luN t * 1603000080 / 6311670000 := by
    rw [← h1]
    omega
  rw [h3]
  unfold qdL luN
  exact lu_q
theorem lu_near {t K lf dd : Int} (hK : luC t = K) (hl : (luL t ∧ lf = 1) ∨ (¬ luL t ∧ lf = 0)) (hd : luD t = dd) : K * 210389 / 6912 - 1132959 - 70 ≤ t ∧ t ≤ K * 210389 / 6912 - 1132959 + 70 := by
  have hdr := luD_rng t
  have hlf : 0 ≤ lf ∧ lf ≤ 1 := by omega
  unfold luC luQ at hK
  unfold luL luB luQ at hl
  have h1 := lu_m hK hl
  unfold luD at hd hdr
  have h2 := lu_E (n := luN t)
  clear hl hK
  unfold luN at *
  generalize hE : (4 * (t + 1132959) + 1) * 1603000080 / 6311670000 = E at *
  generalize hm : (4 * (t + 1132959) + 1) * 53433336 / 6311670000 = m at *
  generalize hq : K * 210389 / 6912 = q
  generalize hw : K * 53433336 / 51840000 = w at *
  have a1 : E * 6311670000 ≤ (4 * (t + 1132959) + 1) * 1603000080 ∧ (4 * (t + 1132959) + 1) * 1603000080 < E * 6311670000 + 6311670000 := by omega
  have a2 : w * 51840000 ≤ K * 53433336 ∧ K * 53433336 < w * 51840000 + 51840000 := by omega
  have a3 : q * 6912 ≤ K * 210389 ∧ K * 210389 < q * 6912 + 6912 := by omega
  have a4 : 30 * m ≤ E ∧ E < 30 * m + 30 := by omega
  clear hE hm hq hw h2 hd hdr
  omega
theorem luC_mono {d d' : Int} (h : d ≤ d') : luC d ≤ luC d' ∧ luC d' ≤ luC d + (d' - d) + 2 := by
  unfold luC luQ luN
  generalize hm : (4 * (d + 1132959) + 1) * 53433336 / 6311670000 = m
  generalize hm' : (4 * (d' + 1132959) + 1) * 53433336 / 6311670000 = m'
  have a1 : m ≤ m' ∧ m' ≤ m + (d' - d) + 1 := by omega
  clear hm hm'
  omega
theorem luC_rng {d : Int} (h : -45000000 ≤ d ∧ d ≤ 45000000) : -1600000 ≤ luC d ∧ luC d ≤ 1600000 := by
  unfold luC luQ luN
  generalize hm : (4 * (d + 1132959) + 1) * 53433336 / 6311670000 = m
  have a1 : -1563000 ≤ m ∧ m ≤ 1563000 := by omega
  clear hm
  omega
theorem luM_cs (t : Int) : (luL t ∧ luM t = luC t % 12 + 1 + 100) ∨ (¬ luL t ∧ luM t = luC t % 12 + 1) := by
  by_cases h : luL t
  · exact Or.inl ⟨h, by unfold luM; rw [bI_t h]; rfl⟩
  · exact Or.inr ⟨h, by unfold luM; rw [bI_f h]; omega⟩
theorem smL_cs (mn : Int) : (100 < mn ∧ smL mn = mn - 100 ∧ bI (100 < mn) = 1) ∨ (¬ 100 < mn ∧ smL mn = mn ∧ bI (100 < mn) = 0) := by
  by_cases h : 100 < mn
  · exact Or.inl ⟨h, by unfold smL; rw [bI_t h]; rfl, bI_t h⟩
  · exact Or.inr ⟨h, by unfold smL; rw [bI_f h]; omega, bI_f h⟩
theorem mt_lu {y mn dd t : Int} : mtS 11 y mn dd t ↔ (luC t = 12 * y + smL mn - 1 ∧ (1 ≤ smL mn ∧ smL mn ≤ 12)) ∧ ((luL t ∧ bI (100 < mn) = 1) ∨ (¬ luL t ∧ bI (100 < mn) = 0)) ∧ luD t = dd := by
  unfold mtS sY sM sD
  rw [if_neg (show ¬ (11 : Int) = 10 by decide), if_neg (show ¬ (11 : Int) = 10 by decide), if_neg (show ¬ (11 : Int) = 10 by decide)]
  have h1 := luM_cs t
  have h2 := smL_cs mn
  constructor
  · rintro ⟨a1, a2, a3⟩
    rcases h1 with ⟨b1, b2⟩ | ⟨b1, b2⟩ <;> rcases h2 with ⟨c1, c2, c3⟩ | ⟨c1, c2, c3⟩
    · exact ⟨⟨by omega, by omega⟩, Or.inl ⟨b1, c3⟩, a3⟩
    · exfalso; omega
    · exfalso; omega
    · exact ⟨⟨by omega, by omega⟩, Or.inr ⟨b1, c3⟩, a3⟩
  · rintro ⟨⟨a1, a2⟩, a3, a4⟩
    refine ⟨by omega, ?_, a4⟩
    rcases h1 with ⟨b1, b2⟩ | ⟨b1, b2⟩ <;> rcases a3 with ⟨c1, c2⟩ | ⟨c1, c2⟩
    · omega
    · exact absurd b1 c1
    · exact absurd c1 b1
    · omega
theorem dyL_iff {y mn dd t : Int} (ht : t ≠ -9223372036854775808) : dyL y mn dd = t ↔ mtS 11 y mn dd t := by
  rw [mt_lu]
  constructor
  · intro h
    unfold dyL at h
    split at h
    · rename_i hc
      subst h
      obtain ⟨⟨a1, a2, a3, a4⟩, h2⟩ := hc
      have h3 := luD_rng (dyL0 y mn dd)
      have h4 := luM_cs (dyL0 y mn dd)
      have h5 := smL_cs mn
      unfold dtL at h2
      generalize dyL0 y mn dd = t0 at h2 h3 h4 ⊢
      generalize luD t0 = D0 at h2 h3 ⊢
      generalize luM t0 = M0 at h2 h4
      generalize luC t0 = K0 at h2 h4 ⊢
      have e1 : D0 = dd := by rcases h4 with ⟨-, h4⟩ | ⟨-, h4⟩ <;> omega
      have e2 : M0 = mn := by rcases h4 with ⟨-, h4⟩ | ⟨-, h4⟩ <;> omega
      have e3 : K0 / 12 = y := by omega
      refine ⟨⟨?_, a1, a2⟩, ?_, e1⟩
      · rcases h4 with ⟨-, h4⟩ | ⟨-, h4⟩ <;> omega
      · rcases h4 with ⟨b1, h4⟩ | ⟨b1, h4⟩
        · exact Or.inl ⟨b1, by omega⟩
        · exact Or.inr ⟨b1, by omega⟩
    · exact absurd h.symm ht
  · rintro ⟨⟨h1, h2⟩, h3, h4⟩
    have a1 := lu_at h1 h3 h4
    have a2 := luD_rng t
    have e1 : dyL0 y mn dd = t := a1.symm
    have h6 := luM_cs t
    have h7 := smL_cs mn
    unfold dyL
    rw [e1, if_pos]
    refine ⟨⟨h2.1, h2.2, by omega, by omega⟩, ?_⟩
    unfold dtL
    rw [h4]
    rcases h6 with ⟨b1, h6⟩ | ⟨b1, h6⟩ <;> rcases h3 with ⟨c1, c2⟩ | ⟨c1, c2⟩
    · rw [h6, h1]; omega
    · exact absurd b1 c1
    · exact absurd c1 b1
    · rw [h6, h1]; omega
theorem dyL_no {y mn dd : Int} (h : ∀ t, ¬ mtS 11 y mn dd t) : dyL y mn dd = -9223372036854775808 := by
  by_cases q : dyL y mn dd = -9223372036854775808
  · exact q
  · exact absurd ((dyL_iff q).mp rfl) (h _)
theorem CalOK.moonM (g : Nat → Nat → Int) : CalOK g 11 (fun d x => x = dtL d) (fun y mth dd r => (-200000 ≤ y ∧ y ≤ 200000) ∧ r = dyL y mth dd) 200000 := by
  refine ⟨fun d => luC d / 12, fun d => luM d, fun d => luD d, fun d hd => ?_, fun d d' h1 h2 h3 => ?_, fun y mn dd hyr => ?_⟩
  · have a1 := luC_rng hd
    have a2 := luD_rng d
    have a3 := luM_cs d
    exact ⟨rfl, Or.inr (Or.inl ⟨rfl, rfl, rfl, rfl⟩), by dsimp only; omega, by dsimp only; rcases a3 with ⟨-, a3⟩ | ⟨-, a3⟩ <;> omega, by dsimp only; omega, fun _ => by dsimp only; omega⟩
  · have := luC_mono h2
    dsimp only
    omega
  · have hm : ∀ d, (luC d / 12 = y ∧ luM d = mn ∧ luD d = dd) ↔ mtS 11 y mn dd d := fun d => by
      unfold mtS sY sM sD
      rw [if_neg (show ¬ (11 : Int) = 10 by decide), if_neg (show ¬ (11 : Int) = 10 by decide), if_neg (show ¬ (11 : Int) = 10 by decide)]
    have esm : (if 100 < mn then mn - 100 else mn) = smL mn := by
      rcases smL_cs mn with ⟨h1, h2, -⟩ | ⟨h1, h2, -⟩
      · rw [if_pos h1, h2]
      · rw [if_neg h1, h2]
    have hno : (r : Int) → (∀ t, ¬ mtS 11 y mn dd t) → r = -9223372036854775808 → DOM g 11 y mn dd r := fun r h e => by
      unfold DOM
      by_cases q : ((11 = (1 : Int) ∨ (11 : Int) = 6) ∧ y = 0) ∨ dd < 1
      · rw [if_pos q]; exact e
      · rw [if_neg q, if_neg (show ¬ (11 : Int) = 10 by decide), if_pos rfl, esm]
        by_cases q2 : 1 ≤ smL mn ∧ smL mn ≤ 12 ∧ dd ≤ 30
        · rw [if_pos q2]
          exact Or.inr ⟨fun t _ _ => h t, e⟩
        · rw [if_neg q2]
          exact e
    by_cases q : ∃ t, mtS 11 y mn dd t
    · obtain ⟨t, ht⟩ := q
      obtain ⟨⟨k1, k2⟩, k3, k4⟩ := mt_lu.mp ht
      have a1 := lu_at k1 k3 k4
      have hn := lu_near k1 k3 k4
      have a2 := luD_rng t
      have hb : -1000000000000 ≤ t ∧ t ≤ 1000000000000 := by
        clear k1 k3 a1 ht
        omega
      have e1 := (dyL_iff (by omega)).mpr ht
      refine ⟨t, ⟨hyr, e1.symm⟩, ?_, Or.inr (by omega), fun d hd => ⟨fun z => by subst z; exact (hm _).mpr ht, fun z => ?_⟩⟩
      · unfold DOM
        rw [esm, if_neg (by omega), if_neg (show ¬ (11 : Int) = 10 by decide), if_pos rfl, if_pos ⟨k2.1, k2.2, by omega⟩]
        refine Or.inl ⟨ht, hn, fun t9 _ h9 h10 => ?_⟩
        obtain ⟨⟨b1, b2⟩, b3, b4⟩ := mt_lu.mp h10
        have := lu_at b1 b3 b4
        rw [← a1] at this
        omega
      · obtain ⟨⟨b1, b2⟩, b3, b4⟩ := mt_lu.mp ((hm d).mp z)
        have := lu_at b1 b3 b4
        rw [← a1] at this
        exact this.symm
    · have q2 : ∀ t, ¬ mtS 11 y mn dd t := fun t ht => q ⟨t, ht⟩
      exact ⟨-9223372036854775808, ⟨hyr, (dyL_no q2).symm⟩, hno _ q2 rfl, Or.inl rfl, fun d hd => ⟨fun z => by omega, fun z => absurd ((hm d).mp z) (q2 d)⟩⟩

