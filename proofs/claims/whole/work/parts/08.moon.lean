/-! pure: the moon's years (calendar 9), the weeks (calendar 2) -/
def hmo (y : Int) : Int := (235 * y - 234) / 19
def hea (m : Int) : Int := 29 * m + (12084 + 13753 * m) / 25920
noncomputable def hpo (a : Int) : Int := bI ((3 * a + 3) % 7 < 3)
noncomputable def hel (y : Int) : Int := hea (hmo y) + hpo (hea (hmo y))
def yl9 (y : Int) : Prop := (7 * y + 1) % 19 < 7
noncomputable def hla (y : Int) : Int := if hel (y + 1) - hel y = 356 then 2 else if hel y - hel (y - 1) = 382 then 1 else 0
noncomputable def hst (y : Int) : Int := hel y + hla y - 1373427
theorem hmo_step (y : Int) : hmo (y + 1) = hmo y + 12 + bI (yl9 y) := by
  unfold hmo
  have hc : y % 19 = 0 ∨ y % 19 = 1 ∨ y % 19 = 2 ∨ y % 19 = 3 ∨ y % 19 = 4 ∨ y % 19 = 5 ∨ y % 19 = 6 ∨ y % 19 = 7 ∨ y % 19 = 8 ∨ y % 19 = 9 ∨ y % 19 = 10 ∨ y % 19 = 11 ∨ y % 19 = 12 ∨ y % 19 = 13 ∨ y % 19 = 14 ∨ y % 19 = 15 ∨ y % 19 = 16 ∨ y % 19 = 17 ∨ y % 19 = 18 := by omega
  by_cases h : yl9 y
  · rw [bI_t h]; unfold yl9 at h; rcases hc with h1 | h1 | h1 | h1 | h1 | h1 | h1 | h1 | h1 | h1 | h1 | h1 | h1 | h1 | h1 | h1 | h1 | h1 | h1 <;> omega
  · rw [bI_f h]; unfold yl9 at h; rcases hc with h1 | h1 | h1 | h1 | h1 | h1 | h1 | h1 | h1 | h1 | h1 | h1 | h1 | h1 | h1 | h1 | h1 | h1 | h1 <;> omega
theorem hea_12 (m : Int) : hea m + 354 ≤ hea (m + 12) ∧ hea (m + 12) ≤ hea m + 355 := by unfold hea; omega
theorem hea_13 (m : Int) : hea m + 383 ≤ hea (m + 13) ∧ hea (m + 13) ≤ hea m + 384 := by unfold hea; omega
theorem hea_24 (m : Int) : hea (m + 12 + 12) ≤ hea m + 709 := by unfold hea; omega
theorem hpo_or (a : Int) : (hpo a = 1 ∧ (a % 7 = 2 ∨ a % 7 = 4 ∨ a % 7 = 6)) ∨ (hpo a = 0 ∧ (a % 7 = 0 ∨ a % 7 = 1 ∨ a % 7 = 3 ∨ a % 7 = 5)) := by
  unfold hpo
  have hc : a % 7 = 0 ∨ a % 7 = 1 ∨ a % 7 = 2 ∨ a % 7 = 3 ∨ a % 7 = 4 ∨ a % 7 = 5 ∨ a % 7 = 6 := by omega
  by_cases h : (3 * a + 3) % 7 < 3
  · rw [bI_t h]; rcases hc with h1 | h1 | h1 | h1 | h1 | h1 | h1 <;> omega
  · rw [bI_f h]; rcases hc with h1 | h1 | h1 | h1 | h1 | h1 | h1 <;> omega
theorem yl9_two (y : Int) (h : yl9 y) : ¬ yl9 (y + 1) := by
  have hc : y % 19 = 0 ∨ y % 19 = 1 ∨ y % 19 = 2 ∨ y % 19 = 3 ∨ y % 19 = 4 ∨ y % 19 = 5 ∨ y % 19 = 6 ∨ y % 19 = 7 ∨ y % 19 = 8 ∨ y % 19 = 9 ∨ y % 19 = 10 ∨ y % 19 = 11 ∨ y % 19 = 12 ∨ y % 19 = 13 ∨ y % 19 = 14 ∨ y % 19 = 15 ∨ y % 19 = 16 ∨ y % 19 = 17 ∨ y % 19 = 18 := by omega
  unfold yl9 at h ⊢
  rcases hc with h1 | h1 | h1 | h1 | h1 | h1 | h1 | h1 | h1 | h1 | h1 | h1 | h1 | h1 | h1 | h1 | h1 | h1 | h1 <;> omega
/-- from one year to the next: days between the moons -/
theorem hea_step (y : Int) : (yl9 y ∧ hea (hmo y) + 383 ≤ hea (hmo (y + 1)) ∧ hea (hmo (y + 1)) ≤ hea (hmo y) + 384) ∨ (¬ yl9 y ∧ hea (hmo y) + 354 ≤ hea (hmo (y + 1)) ∧ hea (hmo (y + 1)) ≤ hea (hmo y) + 355) := by
  by_cases h : yl9 y
  · have e := hmo_step y
    rw [bI_t h] at e
    rw [e, show hmo y + 12 + 1 = hmo y + 13 by omega]
    exact Or.inl ⟨h, hea_13 _⟩
  · have e := hmo_step y
    rw [bI_f h] at e
    rw [e, show hmo y + 12 + 0 = hmo y + 12 by omega]
    exact Or.inr ⟨h, hea_12 _⟩
theorem hea_two (y : Int) (h : ¬ yl9 y) (h2 : ¬ yl9 (y + 1)) : hea (hmo (y + 1 + 1)) ≤ hea (hmo y) + 709 := by
  have e := hmo_step y
  have e2 := hmo_step (y + 1)
  rw [bI_f h] at e
  rw [bI_f h2] at e2
  rw [e2, e, show hmo y + 12 + 0 + 12 + 0 = hmo y + 12 + 12 by omega]
  exact hea_24 _
/-- a year of the moon has 353 to 355 days, a leap year 383 to 385 -/
theorem hst_len (y : Int) : (yl9 y ∧ hst y + 383 ≤ hst (y + 1) ∧ hst (y + 1) ≤ hst y + 385) ∨ (¬ yl9 y ∧ hst y + 353 ≤ hst (y + 1) ∧ hst (y + 1) ≤ hst y + 355) := by
  have s0 := hea_step (y - 1)
  have s1 := hea_step y
  have s2 := hea_step (y + 1)
  have t1 := hea_two y
  have n0 := yl9_two (y - 1)
  have n1 := yl9_two y
  rw [show y - 1 + 1 = y by omega] at s0 n0
  have p0 := hpo_or (hea (hmo (y - 1)))
  have p1 := hpo_or (hea (hmo y))
  have p2 := hpo_or (hea (hmo (y + 1)))
  have p3 := hpo_or (hea (hmo (y + 1 + 1)))
  unfold hst hla
  rw [show y + 1 - 1 = y by omega]
  unfold hel
  generalize hea (hmo (y - 1)) = a0 at *
  generalize hea (hmo y) = a1 at *
  generalize hea (hmo (y + 1)) = a2 at *
  generalize hea (hmo (y + 1 + 1)) = a3 at *
  generalize hpo a0 = b0 at *
  generalize hpo a1 = b1 at *
  generalize hpo a2 = b2 at *
  generalize hpo a3 = b3 at *
  by_cases q : yl9 y
  · have n0' : ¬ yl9 (y - 1) := fun h => n0 h q
    have n1' := n1 q
    refine Or.inl ⟨q, ?_⟩
    rcases s0 with ⟨h, _⟩ | ⟨-, s0⟩
    · exact absurd h n0'
    rcases s1 with ⟨-, s1⟩ | ⟨h, _⟩
    · rcases s2 with ⟨h, _⟩ | ⟨-, s2⟩
      · exact absurd h n1'
      · split <;> split <;> (try split) <;> (try split) <;> omega
    · exact absurd q h
  · refine Or.inr ⟨q, ?_⟩
    rcases s1 with ⟨h, _⟩ | ⟨-, s1⟩
    · exact absurd h q
    have t1 := t1 q
    rcases s0 with ⟨-, s0⟩ | ⟨-, s0⟩ <;> rcases s2 with ⟨-, s2⟩ | ⟨h2, s2⟩
    · split <;> split <;> (try split) <;> (try split) <;> omega
    · have t1 := t1 h2
      split <;> split <;> (try split) <;> (try split) <;> omega
    · split <;> split <;> (try split) <;> (try split) <;> omega
    · have t1 := t1 h2
      split <;> split <;> (try split) <;> (try split) <;> omega
theorem hst_inc : Inc hst := fun y => by have := hst_len y; omega
/-- weeks: the year starts at the Monday nearest to its first of January -/
def wst (S : Int → Int) (y : Int) : Int := S y + 3 - (S y + 3 - 1) % 7
theorem wst_len {S : Int → Int} (y : Int) (h : S y + 365 ≤ S (y + 1)) (h2 : S (y + 1) ≤ S y + 366) : wst S (y + 1) = wst S y + 364 ∨ wst S (y + 1) = wst S y + 371 := by
  unfold wst; omega
