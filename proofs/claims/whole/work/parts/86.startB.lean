/-! 86.startB: laid by program (wip/whole) -/
/-! the start, in numbers -/
theorem gI_at : ∀ (j k : Nat), k < j → gI j 1 k = ys 0 (plM (gI k) (k : Int)) (lbM (gI k) (k : Int)) (gI k 0 k + 1)
  | 0, k, h => absurd h (Nat.not_lt_zero _)
  | j + 1, k, h => by
    show upG (gI j) 1 (Int.toNat (j : Int)) _ 1 k = _
    unfold upG
    rw [if_pos rfl]
    by_cases q : k = j
    · subst q
      rw [if_pos (by omega), show Int.toNat (k : Int) = k by omega]
    · rw [if_neg (by omega)]
      exact gI_at j k (by omega)
theorem cy_at {k : Nat} (hk : k < 9) {N K pd : Int} {L : Int → Int} (h0 : g0I 0 k = N) (hpl : ∀ g, plM g (k : Int) = pd) (hL : ∀ g y, lbM g (k : Int) y = L y) (hN : 1 ≤ N ∧ N ≤ 4000) (hK : 0 ≤ K ∧ K ≤ 4000) (hq : ∀ q, L (q * N + 1) = L 1 + q * K) : CyOK (gI 9) (k : Int) := by
  have e0 : ∀ j, gI j 0 k = N := fun j => by rw [gI_1 j 0 (by decide)]; exact h0
  unfold CyOK
  rw [show Int.toNat (k : Int) = k by omega, e0 9, gI_at 9 k hk, e0 k, hpl, hpl]
  refine ⟨K, hN, hK, ?_, fun q => by rw [hL, hL]; exact hq q⟩
  unfold ys
  have h1 := hq 1
  rw [hL, hL]
  rw [show (1 : Int) * N + 1 = N + 1 by omega] at h1
  rw [h1, show N + 1 - 1 = N by omega]
  omega
theorem minv0 : MInv (gI 9) := by
  refine ⟨fun cal hc => ?_, fun i hi => ?_⟩
  · rcases hc with rfl | rfl | rfl | rfl | rfl | rfl | rfl | rfl
    · exact cy_at (k := 0) (N := 400) (K := 97) (pd := 365) (L := lb0) (by decide) (by decide +kernel) (fun _ => by simp [plM]) (fun _ _ => rfl) (by decide) (by decide) (fun q => by unfold lb0; omega)
    · exact cy_at (k := 1) (N := 4) (K := 1) (pd := 365) (L := lbS 1 0 4) (by decide) (by decide +kernel) (fun _ => by simp [plM]) (fun _ _ => rfl) (by decide) (by decide) (fun q => by unfold lbS; omega)
    · exact cy_at (k := 3) (N := 4) (K := 1) (pd := 365) (L := lbS 1 1 4) (by decide) (by decide +kernel) (fun _ => by simp [plM]) (fun _ _ => rfl) (by decide) (by decide) (fun q => by unfold lbS; omega)
    · exact cy_at (k := 4) (N := 4) (K := 1) (pd := 365) (L := lbS 1 1 4) (by decide) (by decide +kernel) (fun _ => by simp [plM]) (fun _ _ => rfl) (by decide) (by decide) (fun q => by unfold lbS; omega)
    · exact cy_at (k := 5) (N := 30) (K := 11) (pd := 354) (L := lbS 11 14 30) (by decide) (by decide +kernel) (fun _ => by simp [plM]) (fun _ _ => rfl) (by decide) (by decide) (fun q => by unfold lbS; omega)
    · exact cy_at (k := 6) (N := 2820) (K := 683) (pd := 365) (L := lb6) (by decide) (by decide +kernel) (fun _ => by simp [plM]) (fun _ _ => rfl) (by decide) (by decide) (fun q => by unfold lb6; omega)
    · exact cy_at (k := 7) (N := 4000) (K := 969) (pd := 365) (L := lb7) (by decide) (by decide +kernel) (fun _ => by simp [plM]) (fun _ _ => rfl) (by decide) (by decide) (fun q => by unfold lb7 lb0; omega)
    · exact cy_at (k := 8) (N := 400) (K := 97) (pd := 365) (L := fun y => lb0 (y + 1844)) (by decide) (by decide +kernel) (fun _ => by simp [plM]) (fun _ _ => rfl) (by decide) (by decide) (fun q => by unfold lb0; omega)
  · rw [gI_1 9 2 (by decide)]
    refine ⟨by show (0 : Int) ≤ 0 ∧ (0 : Int) ≤ 1; decide, fun h => absurd rfl h⟩
theorem ch0 : ChOK (gI 9) := fun j _ => by rw [gI_1 9 9 (by decide)]; show (0 : Int) ≤ 0 ∧ (0 : Int) < 65536; decide
theorem row0 : RowIs F0I (gI 9) [] := ⟨by decide, by decide, fun i hi => absurd hi (Nat.not_lt_zero _)⟩
theorem cache0 : CacheOK F0I (gI 9) := Or.inl rfl
theorem rwo0 : RWO 16 0 (fun _ => 0) [] := ⟨Or.inl rfl, by decide, ⟨by decide, by decide⟩, fun i hi => absurd hi (Nat.not_lt_zero _), fun j => by show (0 : Int) ≤ 0 ∧ (0 : Int) ≤ 127; decide⟩
theorem hc0_no (i : Nat) (h : i = 12 ∨ i = 13) : ¬ hcM (gI 9) (i : Int) := by
  rintro (q | ⟨-, q⟩)
  · omega
  · rw [gI_1 9 2 (by decide)] at q
    exact q rfl

