/-! 72.eqF: laid by program (wip/whole) -/
/-! reading -/
theorem SLM.ex (r : Nat → Int) (z fr : Int) (hf : 0 ≤ fr) : ∃ x, SLM r z fr x := by
  rcases first_or (fun i => z ≤ fr + (i : Int) ∨ r (Int.toNat (fr + i)) = 47) (Int.toNat (z - fr) + 1) with ⟨i, i1, i2, i3⟩ | h
  · refine ⟨fr + i, fun j h1 h2 => ?_, by omega, i2⟩
    have := i3 (Int.toNat (j - fr)) (by omega)
    rw [show fr + ((Int.toNat (j - fr) : Nat) : Int) = j by omega] at this
    exact ⟨by omega, fun q => this (Or.inr q)⟩
  · exact absurd (Or.inl (by omega)) (h (Int.toNat (z - fr)) (by omega))
theorem SLM.congr {r r' : Nat → Int} {z fr x : Int} (he : ∀ i : Nat, (i : Int) < z → r i = r' i) (hf : 0 ≤ fr) (h : SLM r z fr x) : SLM r' z fr x := by
  obtain ⟨h1, h2, h3⟩ := h
  refine ⟨fun j a b => ?_, h2, ?_⟩
  · have := h1 j a b
    exact ⟨this.1, by rw [← he _ (by omega)]; exact this.2⟩
  · by_cases q : z ≤ x
    · exact Or.inl q
    · exact Or.inr (by rw [← he _ (by omega)]; exact h3.resolve_left q)
theorem vlM_congr {r r' : Nat → Int} {b : Nat} : ∀ {n : Nat}, (∀ i, i < n → r (b + i) = r' (b + i)) → vlM r b n = vlM r' b n
  | 0, _ => rfl
  | n + 1, h => by
    show 10 * vlM r b n + (r (b + n) - 48) = 10 * vlM r' b n + (r' (b + n) - 48)
    rw [vlM_congr (n := n) (fun i hi => h i (by omega)), h n (by omega)]
theorem bgM_congr {r r' : Nat → Int} {fr to : Int} (he : ∀ i : Nat, (i : Int) < to → r i = r' i) (hf : 0 ≤ fr) : bgM r fr to = bgM r' fr to := by
  unfold bgM
  congr 1
  exact bI_iff ⟨fun q => ⟨q.1, by rw [← he _ (by omega)]; exact q.2⟩, fun q => ⟨q.1, by rw [he _ (by omega)]; exact q.2⟩⟩
theorem bgM_rng (r : Nat → Int) (fr to : Int) : fr ≤ bgM r fr to ∧ bgM r fr to ≤ fr + 1 := by
  unfold bgM
  have := bI_01 (fr < to ∧ r (Int.toNat fr) = 45)
  omega
theorem NIC.ex (r : Nat → Int) (fr to : Int) : ∃ x, NIC r fr to x := by
  by_cases h : okC r fr to (bgM r fr to) ∧ dgM r (bgM r fr to) to
  · exact ⟨_, Or.inl ⟨h, rfl⟩⟩
  · exact ⟨_, Or.inr ⟨h, rfl⟩⟩
theorem NIC.none {r : Nat → Int} {fr to x : Int} (h : NIC r fr to x) (hft : to ≤ fr) : x = -2147483648 := by
  rcases h with ⟨⟨h1, -⟩, -⟩ | ⟨-, h⟩
  · have := bgM_rng r fr to
    have := h1.1
    omega
  · exact h
theorem vlM_lo {r : Nat → Int} {b : Nat} (h0 : r b ≠ 48) : ∀ n : Nat, (∀ i, i < n + 1 → 48 ≤ r (b + i) ∧ r (b + i) ≤ 57) → 10 ^ n ≤ vlM r b (n + 1)
  | 0, h => by
    show (10 : Int) ^ 0 ≤ 10 * 0 + (r (b + 0) - 48)
    have := h 0 (by omega)
    rw [Nat.add_zero] at this ⊢
    rw [show (10 : Int) ^ 0 = 1 by decide]
    omega
  | n + 1, h => by
    have q := vlM_lo h0 n (fun i hi => h i (by omega))
    have q2 := h (n + 1) (by omega)
    show (10 : Int) ^ (n + 1) ≤ 10 * vlM r b (n + 1) + (r (b + (n + 1)) - 48)
    rw [Int.pow_succ]
    omega
/-- the class reads the number of the reference, or one of eight or nine figures where that reads none -/
theorem NIC.nim {r r' : Nat → Int} {fr to x : Int} (h : NIC r fr to x) (he : ∀ i : Nat, (i : Int) < to → r i = r' i) (hf : 0 ≤ fr) : ∃ y, NIM r' fr to y ∧ (y = x ∨ (y = -2147483648 ∧ (x ≤ -10000000 ∨ 10000000 ≤ x))) := by
  have eb := bgM_congr he hf
  have hb := bgM_rng r fr to
  have hdg : dgM r (bgM r fr to) to ↔ dgM r' (bgM r fr to) to := ⟨fun q j a b => by rw [← he _ (by omega)]; exact q j a b, fun q j a b => by rw [he _ (by omega)]; exact q j a b⟩
  by_cases hk : okM r' fr to (bgM r fr to) ∧ dgM r' (bgM r fr to) to
  · refine ⟨x, Or.inl ⟨by rw [← eb]; exact hk, ?_⟩, Or.inl rfl⟩
    obtain ⟨⟨k1, k2, k3⟩, k4⟩ := hk
    have hC : okC r fr to (bgM r fr to) := ⟨k1, by omega, by rw [he _ (by omega)]; exact k3⟩
    rw [h.good rfl hC (hdg.mpr k4), ← eb]
    have ev : vlM r (Int.toNat (bgM r fr to)) (Int.toNat (to - bgM r fr to)) = vlM r' (Int.toNat (bgM r fr to)) (Int.toNat (to - bgM r fr to)) := vlM_congr (fun i hi => he _ (by omega))
    rw [ev]
  · refine ⟨-2147483648, Or.inr ⟨by rw [← eb]; exact hk, rfl⟩, ?_⟩
    rcases h with ⟨⟨⟨o1, o2, o3⟩, o4⟩, hx⟩ | ⟨-, hx⟩
    · right
      refine ⟨rfl, ?_⟩
      have n8 : 7 < to - bgM r fr to := by
        by_cases q : to - bgM r fr to ≤ 7
        · exact absurd ⟨⟨o1, q, by rw [← he _ (by omega)]; exact o3⟩, hdg.mp o4⟩ hk
        · omega
      have o5 : r (Int.toNat (bgM r fr to)) ≠ 48 := by
        rcases o3 with q | q
        · exact q
        · omega
      obtain ⟨n, hn⟩ : ∃ n : Nat, Int.toNat (to - bgM r fr to) = n + 1 := ⟨Int.toNat (to - bgM r fr to) - 1, by omega⟩
      have hl := vlM_lo o5 n (fun i hi => by
        have := o4 (bgM r fr to + i) (by omega) (by omega)
        rw [show Int.toNat (bgM r fr to + i) = Int.toNat (bgM r fr to) + i by omega] at this
        exact this)
      have hp := p10_mono (i := 7) (j := n) (by omega)
      rw [show (10 : Int) ^ 7 = 10000000 by decide] at hp
      rw [hn] at hx
      split at hx
      · left; omega
      · right; omega
    · exact Or.inl hx.symm
theorem rd_ex {g : Nat → Nat → Int} {cal : Int} {DT : Int → Int → Prop} {DR : Int → Int → Int → Int → Prop} {YB : Int} (hC : CalOK g cal DT DR YB) (hYB : 100000 ≤ YB) {tx : Nat → Int} {z : Int} (he : ∀ i : Nat, (i : Int) < z → tx i = g 9 i) (hz : 0 ≤ z ∧ z ≤ 24) :
    ∃ i1 i2 s1 s2 n1 n2 n3 r S2 N1 N2 N3 Rr tc x : Int, (SLM tx z 0 i1 ∧ s1 = if i1 < z then i1 else z) ∧ (SLM tx z (s1 + 1) i2 ∧ s2 = if i2 < z then i2 else z) ∧ NIC tx 0 s1 n1 ∧ NIC tx (s1 + 1) s2 n2 ∧ NIC tx (s2 + 1) z n3 ∧ RDM g z cal i1 S2 N1 N2 N3 Rr tc x ∧ (-9223372036854775808 ≤ Rr ∧ Rr ≤ 9223372036854775807) ∧ (-9223372036854775808 ≤ r ∧ r ≤ 9223372036854775807) ∧
      ((tc = 2 ∧ x = 0 ∧ (¬ (n1 ≠ -2147483648 ∧ n2 ≠ -2147483648 ∧ n3 ≠ -2147483648 ∧ (-100000 ≤ n1 ∧ n1 ≤ 100000)) ∨ ((n1 ≠ -2147483648 ∧ n2 ≠ -2147483648 ∧ n3 ≠ -2147483648 ∧ (-100000 ≤ n1 ∧ n1 ≤ 100000)) ∧ DR n1 n2 n3 r ∧ (r = -9223372036854775808 ∨ ¬ (-40000000 ≤ r ∧ r ≤ 40000000))))) ∨ (tc = 0 ∧ (n1 ≠ -2147483648 ∧ n2 ≠ -2147483648 ∧ n3 ≠ -2147483648 ∧ (-100000 ≤ n1 ∧ n1 ≤ 100000)) ∧ DR n1 n2 n3 r ∧ r ≠ -9223372036854775808 ∧ (-40000000 ≤ r ∧ r ≤ 40000000) ∧ x = r)) := by
  obtain ⟨fY, fM, fD, c1, -, c3⟩ := hC
  obtain ⟨i1, h1⟩ := SLM.ex tx z 0 (by omega)
  have b1 := h1.rng
  have hi1 : 0 ≤ i1 ∧ i1 ≤ z := by
    rcases h1 with ⟨q1, q2, q3⟩
    refine ⟨q2, ?_⟩
    by_cases q : i1 ≤ z
    · exact q
    · have := (q1 z (by omega) (by omega)).1
      omega
  have es1 : (if i1 < z then i1 else z) = i1 := by split <;> omega
  obtain ⟨i2, h2⟩ := SLM.ex tx z (i1 + 1) (by omega)
  have b2 := h2.rng
  obtain ⟨n1, e1⟩ := NIC.ex tx 0 i1
  obtain ⟨n2, e2⟩ := NIC.ex tx (i1 + 1) (if i2 < z then i2 else z)
  obtain ⟨n3, e3⟩ := NIC.ex tx ((if i2 < z then i2 else z) + 1) z
  obtain ⟨N1, m1, m1'⟩ := e1.nim (fun i hi => he i (by omega)) (by omega)
  -- the second and third numbers
  have h2z : i1 < z → i2 ≤ z := fun q => by
    rcases h2 with ⟨q1, q2, q3⟩
    by_cases w : i2 ≤ z
    · exact w
    · have := (q1 z (by omega) (by omega)).1
      omega
  obtain ⟨N2, m2, m2'⟩ : ∃ N2, ((i1 < z ∧ NIM (g 9) (i1 + 1) i2 N2) ∨ (z ≤ i1 ∧ N2 = -2147483648)) ∧ (N2 = n2 ∨ (N2 = -2147483648 ∧ (n2 ≤ -10000000 ∨ 10000000 ≤ n2))) := by
    by_cases q : i1 < z
    · have w := h2z q
      have es2 : (if i2 < z then i2 else z) = i2 := by split <;> omega
      rw [es2] at e2
      obtain ⟨N2, a1, a2⟩ := e2.nim (fun i hi => he i (by omega)) (by omega)
      exact ⟨N2, Or.inl ⟨q, a1⟩, a2⟩
    · exact ⟨-2147483648, Or.inr ⟨by omega, rfl⟩, Or.inl (e2.none (by split <;> omega)).symm⟩
  obtain ⟨N3, m3, m3'⟩ : ∃ N3, ((i2 < z ∧ NIM (g 9) (i2 + 1) z N3) ∨ (z ≤ i2 ∧ N3 = -2147483648)) ∧ (N3 = n3 ∨ (N3 = -2147483648 ∧ (n3 ≤ -10000000 ∨ 10000000 ≤ n3))) := by
    by_cases q : i2 < z
    · rw [if_pos q] at e3
      obtain ⟨N3, a1, a2⟩ := e3.nim (fun i hi => he i (by omega)) (by omega)
      exact ⟨N3, Or.inl ⟨q, a1⟩, a2⟩
    · exact ⟨-2147483648, Or.inr ⟨by omega, rfl⟩, Or.inl (e3.none (by rw [if_neg q]; omega)).symm⟩
  have sl1 := h1.congr he (by omega)
  have sl2 := h2.congr he (by omega)
  have cls : (SLM tx z 0 i1 ∧ i1 = if i1 < z then i1 else z) := ⟨h1, es1.symm⟩
  by_cases hg : (N1 ≠ -2147483648 ∧ N2 ≠ -2147483648 ∧ N3 ≠ -2147483648 ∧ (-100000 ≤ N1 ∧ N1 ≤ 100000))
  · have e4 : N1 = n1 := by omega
    have e5 : N2 = n2 := by omega
    have e6 : N3 = n3 := by omega
    subst e4; subst e5; subst e6
    obtain ⟨r, r1, r2, r3, r4⟩ := c3 N1 N2 N3 (by omega)
    by_cases hr : r ≠ -9223372036854775808 ∧ (-40000000 ≤ r ∧ r ≤ 40000000)
    · exact ⟨i1, i2, i1, _, N1, N2, N3, r, i2, N1, N2, N3, r, 0, r, cls, ⟨h2, rfl⟩, e1, e2, e3, ⟨sl1, sl2, m1, m2, m3, Or.inl ⟨⟨⟨hg.1, hg.2.1, hg.2.2.1⟩, hg.2.2.2⟩, r2⟩, Or.inr ⟨rfl, rfl, hr.1, hr.2⟩⟩, by omega, by omega, Or.inr ⟨rfl, hg, r1, hr.1, hr.2, rfl⟩⟩
    · exact ⟨i1, i2, i1, _, N1, N2, N3, r, i2, N1, N2, N3, r, 2, 0, cls, ⟨h2, rfl⟩, e1, e2, e3, ⟨sl1, sl2, m1, m2, m3, Or.inl ⟨⟨⟨hg.1, hg.2.1, hg.2.2.1⟩, hg.2.2.2⟩, r2⟩, Or.inl ⟨rfl, rfl, by omega⟩⟩, by omega, by omega, Or.inl ⟨rfl, rfl, Or.inr ⟨hg, r1, by omega⟩⟩⟩
  · have mdl : RDM g z cal i1 i2 N1 N2 N3 (-9223372036854775808) 2 0 := ⟨sl1, sl2, m1, m2, m3, Or.inr ⟨fun q => hg ⟨q.1.1, q.1.2.1, q.1.2.2, q.2⟩, rfl⟩, Or.inl ⟨rfl, rfl, Or.inl rfl⟩⟩
    by_cases hg2 : (n1 ≠ -2147483648 ∧ n2 ≠ -2147483648 ∧ n3 ≠ -2147483648 ∧ (-100000 ≤ n1 ∧ n1 ≤ 100000))
    · obtain ⟨r, r1, r2, r3, r4⟩ := c3 n1 n2 n3 (by omega)
      refine ⟨i1, i2, i1, _, n1, n2, n3, r, i2, N1, N2, N3, -9223372036854775808, 2, 0, cls, ⟨h2, rfl⟩, e1, e2, e3, mdl, by omega, by omega, Or.inl ⟨rfl, rfl, Or.inr ⟨hg2, r1, ?_⟩⟩⟩
      by_cases q : -40000000 ≤ r ∧ r ≤ 40000000
      · exfalso
        have w := (r4 r (by omega)).mp rfl
        obtain ⟨-, -, -, w2, w3, -⟩ := c1 r (by omega)
        omega
      · exact Or.inr q
    · exact ⟨i1, i2, i1, _, n1, n2, n3, 0, i2, N1, N2, N3, -9223372036854775808, 2, 0, cls, ⟨h2, rfl⟩, e1, e2, e3, mdl, by omega, by omega, Or.inl ⟨rfl, rfl, Or.inl hg2⟩⟩

