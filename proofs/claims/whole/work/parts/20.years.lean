/-! 20.years: laid by program (wip/whole) -/
theorem laH_353_0 : laH 0 353 = 30 := rfl
theorem laH_353_1 : laH 1 353 = 29 := by show 29 + bI ((353 : Int) = 355 ∨ (353 : Int) = 385) = 29; rw [bI_f (by decide)]; rfl
theorem laH_353_2 : laH 2 353 = 29 := by show 30 - bI ((353 : Int) = 353 ∨ (353 : Int) = 383) = 29; rw [bI_t (by decide)]; rfl
theorem laH_353_3 : laH 3 353 = 29 := rfl
theorem laH_353_4 : laH 4 353 = 30 := rfl
theorem laH_353_5 : laH 5 353 = 29 := by show 29 + bI (355 < (353 : Int)) = 29; rw [bI_f (by decide)]; rfl
theorem laH_353_6 : laH 6 353 = 30 := rfl
theorem laH_353_7 : laH 7 353 = 29 := rfl
theorem laH_353_8 : laH 8 353 = 30 := rfl
theorem laH_353_9 : laH 9 353 = 29 := rfl
theorem laH_353_10 : laH 10 353 = 30 := rfl
theorem laH_353_11 : laH 11 353 = 29 := rfl
theorem cmH_353 : cm (fun j => laH (j : Int) 353) 12 = 353 := by
  show ((((((((((((0 + laH 0 353) + laH 1 353) + laH 2 353) + laH 3 353) + laH 4 353) + laH 5 353) + laH 6 353) + laH 7 353) + laH 8 353) + laH 9 353) + laH 10 353) + laH 11 353) = 353
  rw [laH_353_0, laH_353_1, laH_353_2, laH_353_3, laH_353_4, laH_353_5, laH_353_6, laH_353_7, laH_353_8, laH_353_9, laH_353_10, laH_353_11]
  rfl
theorem laH_354_0 : laH 0 354 = 30 := rfl
theorem laH_354_1 : laH 1 354 = 29 := by show 29 + bI ((354 : Int) = 355 ∨ (354 : Int) = 385) = 29; rw [bI_f (by decide)]; rfl
theorem laH_354_2 : laH 2 354 = 30 := by show 30 - bI ((354 : Int) = 353 ∨ (354 : Int) = 383) = 30; rw [bI_f (by decide)]; rfl
theorem laH_354_3 : laH 3 354 = 29 := rfl
theorem laH_354_4 : laH 4 354 = 30 := rfl
theorem laH_354_5 : laH 5 354 = 29 := by show 29 + bI (355 < (354 : Int)) = 29; rw [bI_f (by decide)]; rfl
theorem laH_354_6 : laH 6 354 = 30 := rfl
theorem laH_354_7 : laH 7 354 = 29 := rfl
theorem laH_354_8 : laH 8 354 = 30 := rfl
theorem laH_354_9 : laH 9 354 = 29 := rfl
theorem laH_354_10 : laH 10 354 = 30 := rfl
theorem laH_354_11 : laH 11 354 = 29 := rfl
theorem cmH_354 : cm (fun j => laH (j : Int) 354) 12 = 354 := by
  show ((((((((((((0 + laH 0 354) + laH 1 354) + laH 2 354) + laH 3 354) + laH 4 354) + laH 5 354) + laH 6 354) + laH 7 354) + laH 8 354) + laH 9 354) + laH 10 354) + laH 11 354) = 354
  rw [laH_354_0, laH_354_1, laH_354_2, laH_354_3, laH_354_4, laH_354_5, laH_354_6, laH_354_7, laH_354_8, laH_354_9, laH_354_10, laH_354_11]
  rfl
theorem laH_355_0 : laH 0 355 = 30 := rfl
theorem laH_355_1 : laH 1 355 = 30 := by show 29 + bI ((355 : Int) = 355 ∨ (355 : Int) = 385) = 30; rw [bI_t (by decide)]; rfl
theorem laH_355_2 : laH 2 355 = 30 := by show 30 - bI ((355 : Int) = 353 ∨ (355 : Int) = 383) = 30; rw [bI_f (by decide)]; rfl
theorem laH_355_3 : laH 3 355 = 29 := rfl
theorem laH_355_4 : laH 4 355 = 30 := rfl
theorem laH_355_5 : laH 5 355 = 29 := by show 29 + bI (355 < (355 : Int)) = 29; rw [bI_f (by decide)]; rfl
theorem laH_355_6 : laH 6 355 = 30 := rfl
theorem laH_355_7 : laH 7 355 = 29 := rfl
theorem laH_355_8 : laH 8 355 = 30 := rfl
theorem laH_355_9 : laH 9 355 = 29 := rfl
theorem laH_355_10 : laH 10 355 = 30 := rfl
theorem laH_355_11 : laH 11 355 = 29 := rfl
theorem cmH_355 : cm (fun j => laH (j : Int) 355) 12 = 355 := by
  show ((((((((((((0 + laH 0 355) + laH 1 355) + laH 2 355) + laH 3 355) + laH 4 355) + laH 5 355) + laH 6 355) + laH 7 355) + laH 8 355) + laH 9 355) + laH 10 355) + laH 11 355) = 355
  rw [laH_355_0, laH_355_1, laH_355_2, laH_355_3, laH_355_4, laH_355_5, laH_355_6, laH_355_7, laH_355_8, laH_355_9, laH_355_10, laH_355_11]
  rfl
theorem laH_383_0 : laH 0 383 = 30 := rfl
theorem laH_383_1 : laH 1 383 = 29 := by show 29 + bI ((383 : Int) = 355 ∨ (383 : Int) = 385) = 29; rw [bI_f (by decide)]; rfl
theorem laH_383_2 : laH 2 383 = 29 := by show 30 - bI ((383 : Int) = 353 ∨ (383 : Int) = 383) = 29; rw [bI_t (by decide)]; rfl
theorem laH_383_3 : laH 3 383 = 29 := rfl
theorem laH_383_4 : laH 4 383 = 30 := rfl
theorem laH_383_5 : laH 5 383 = 30 := by show 29 + bI (355 < (383 : Int)) = 30; rw [bI_t (by decide)]; rfl
theorem laH_383_6 : laH 6 383 = 29 := rfl
theorem laH_383_7 : laH 7 383 = 30 := rfl
theorem laH_383_8 : laH 8 383 = 29 := rfl
theorem laH_383_9 : laH 9 383 = 30 := rfl
theorem laH_383_10 : laH 10 383 = 29 := rfl
theorem laH_383_11 : laH 11 383 = 30 := rfl
theorem laH_383_12 : laH 12 383 = 29 := rfl
theorem cmH_383 : cm (fun j => laH (j : Int) 383) 13 = 383 := by
  show (((((((((((((0 + laH 0 383) + laH 1 383) + laH 2 383) + laH 3 383) + laH 4 383) + laH 5 383) + laH 6 383) + laH 7 383) + laH 8 383) + laH 9 383) + laH 10 383) + laH 11 383) + laH 12 383) = 383
  rw [laH_383_0, laH_383_1, laH_383_2, laH_383_3, laH_383_4, laH_383_5, laH_383_6, laH_383_7, laH_383_8, laH_383_9, laH_383_10, laH_383_11, laH_383_12]
  rfl
theorem laH_384_0 : laH 0 384 = 30 := rfl
theorem laH_384_1 : laH 1 384 = 29 := by show 29 + bI ((384 : Int) = 355 ∨ (384 : Int) = 385) = 29; rw [bI_f (by decide)]; rfl
theorem laH_384_2 : laH 2 384 = 30 := by show 30 - bI ((384 : Int) = 353 ∨ (384 : Int) = 383) = 30; rw [bI_f (by decide)]; rfl
theorem laH_384_3 : laH 3 384 = 29 := rfl
theorem laH_384_4 : laH 4 384 = 30 := rfl
theorem laH_384_5 : laH 5 384 = 30 := by show 29 + bI (355 < (384 : Int)) = 30; rw [bI_t (by decide)]; rfl
theorem laH_384_6 : laH 6 384 = 29 := rfl
theorem laH_384_7 : laH 7 384 = 30 := rfl
theorem laH_384_8 : laH 8 384 = 29 := rfl
theorem laH_384_9 : laH 9 384 = 30 := rfl
theorem laH_384_10 : laH 10 384 = 29 := rfl
theorem laH_384_11 : laH 11 384 = 30 := rfl
theorem laH_384_12 : laH 12 384 = 29 := rfl
theorem cmH_384 : cm (fun j => laH (j : Int) 384) 13 = 384 := by
  show (((((((((((((0 + laH 0 384) + laH 1 384) + laH 2 384) + laH 3 384) + laH 4 384) + laH 5 384) + laH 6 384) + laH 7 384) + laH 8 384) + laH 9 384) + laH 10 384) + laH 11 384) + laH 12 384) = 384
  rw [laH_384_0, laH_384_1, laH_384_2, laH_384_3, laH_384_4, laH_384_5, laH_384_6, laH_384_7, laH_384_8, laH_384_9, laH_384_10, laH_384_11, laH_384_12]
  rfl
theorem laH_385_0 : laH 0 385 = 30 := rfl
theorem laH_385_1 : laH 1 385 = 30 := by show 29 + bI ((385 : Int) = 355 ∨ (385 : Int) = 385) = 30; rw [bI_t (by decide)]; rfl
theorem laH_385_2 : laH 2 385 = 30 := by show 30 - bI ((385 : Int) = 353 ∨ (385 : Int) = 383) = 30; rw [bI_f (by decide)]; rfl
theorem laH_385_3 : laH 3 385 = 29 := rfl
theorem laH_385_4 : laH 4 385 = 30 := rfl
theorem laH_385_5 : laH 5 385 = 30 := by show 29 + bI (355 < (385 : Int)) = 30; rw [bI_t (by decide)]; rfl
theorem laH_385_6 : laH 6 385 = 29 := rfl
theorem laH_385_7 : laH 7 385 = 30 := rfl
theorem laH_385_8 : laH 8 385 = 29 := rfl
theorem laH_385_9 : laH 9 385 = 30 := rfl
theorem laH_385_10 : laH 10 385 = 29 := rfl
theorem laH_385_11 : laH 11 385 = 30 := rfl
theorem laH_385_12 : laH 12 385 = 29 := rfl
theorem cmH_385 : cm (fun j => laH (j : Int) 385) 13 = 385 := by
  show (((((((((((((0 + laH 0 385) + laH 1 385) + laH 2 385) + laH 3 385) + laH 4 385) + laH 5 385) + laH 6 385) + laH 7 385) + laH 8 385) + laH 9 385) + laH 10 385) + laH 11 385) + laH 12 385) = 385
  rw [laH_385_0, laH_385_1, laH_385_2, laH_385_3, laH_385_4, laH_385_5, laH_385_6, laH_385_7, laH_385_8, laH_385_9, laH_385_10, laH_385_11, laH_385_12]
  rfl
theorem laH_rng (pl d : Int) : 29 ≤ laH pl d ∧ laH pl d ≤ 30 := by
  unfold laH mlH
  have h1 := bI_01 (d = 355 ∨ d = 385)
  have h2 := bI_01 (d = 353 ∨ d = 383)
  have h3 := bI_01 (355 < d)
  split
  · omega
  · split
    · omega
    · split
      · omega
      · split <;> omega
theorem cmS_const (v : Int) : ∀ n : Nat, cm (fun _ => v) n = n * v
  | 0 => by simp [cm]
  | n + 1 => by
    show cm (fun _ => v) n + v = _
    rw [cmS_const v n, show ((n + 1 : Nat) : Int) = (n : Int) + 1 by omega, Int.add_mul]
    omega
theorem cm_bump {f : Nat → Int} {lp : Int} {A : Prop} (h0 : 0 ≤ lp) : ∀ n : Nat, cm (fun j => f j + bI ((j : Int) = lp ∧ A)) n = cm f n + bI (lp < n ∧ A)
  | 0 => by rw [bI_f (by omega)]; rfl
  | n + 1 => by
    show cm (fun j => f j + bI ((j : Int) = lp ∧ A)) n + (f n + bI ((n : Int) = lp ∧ A)) = cm f n + f n + _
    rw [cm_bump h0 n]
    by_cases hA : A
    · by_cases h1 : (n : Int) = lp
      · rw [bI_f (by omega), bI_t ⟨h1, hA⟩, bI_t ⟨by omega, hA⟩]; omega
      · by_cases h2 : lp < n
        · rw [bI_t ⟨h2, hA⟩, bI_f (by omega), bI_t ⟨by omega, hA⟩]; omega
        · rw [bI_f (by omega), bI_f (by omega), bI_f (by omega)]; omega
    · rw [bI_f (fun q => hA q.2), bI_f (fun q => hA q.2), bI_f (fun q => hA q.2)]; omega
/-- what every calendar of years keeps: its years follow each other, its months fill them -/
def Cok (S nm : Int → Int) (ma la : Int → Int → Int) (co ya : Int → Int) : Prop :=
  Inc S ∧ (∀ y, S (y + 1) - S y ≤ 2000) ∧
  (∀ y, 1 ≤ nm (S (y + 1) - S y) ∧ nm (S (y + 1) - S y) ≤ 60 ∧ (∀ j : Nat, (j : Int) < nm (S (y + 1) - S y) → (1 ≤ la j (S (y + 1) - S y) ∧ la j (S (y + 1) - S y) ≤ 60) ∧ 0 ≤ ma j (S (y + 1) - S y) ∧ ma j (S (y + 1) - S y) ≤ 127) ∧ cm (fun j => la j (S (y + 1) - S y)) (nm (S (y + 1) - S y)).toNat = S (y + 1) - S y) ∧
  S (-67108864) ≤ -50000000 ∧ 50000000 ≤ S 67108864 ∧
  (∀ y, -300000000 ≤ y ∧ y ≤ 300000000 → -5000010000000 ≤ S y ∧ S y ≤ 5000010000000) ∧
  (∀ y, (y - 1 ≤ co y ∧ co y ≤ y + 1) ∧ y - 1 ≤ ya y ∧ ya y ≤ y + 1)
def cM (lp ep pd : Int) (fn fl : Nat → Int) (n : Nat) : Prop := (-1000000 ≤ ep ∧ ep ≤ 1000000) ∧ (1 ≤ pd ∧ pd ≤ 1000) ∧ (0 ≤ lp ∧ lp < n) ∧ (1 ≤ n ∧ n ≤ 20) ∧ (∀ j, j < n → 1 ≤ fl j ∧ fl j ≤ 40) ∧ (∀ j, j < 20 → 0 ≤ fn j ∧ fn j ≤ 20) ∧ cm fl n = pd
theorem ys_rng {D : va_G} {q : Nat} {P : Int → Prop} {L : Int → Int} {U : State} (h : RuleAt D q P L U) {ep pd y : Int} (h1 : -1000000 ≤ ep ∧ ep ≤ 1000000) (h2 : 1 ≤ pd ∧ pd ≤ 1000) (hy : -900000000 ≤ y ∧ y ≤ 900000000) : -5000000000000 ≤ ys ep pd L y ∧ ys ep pd L y ≤ 5000000000000 := by
  have q1 := h.rng (y := y) (by omega)
  have q2 := h.rng (y := 1) (by omega)
  have q3 : -900000001000 ≤ pd * (y - 1) ∧ pd * (y - 1) ≤ 900000001000 := by
    have a1 := Int.mul_le_mul_of_nonneg_left (show y - 1 ≤ 900000000 by omega) (show 0 ≤ pd by omega)
    have a2 := Int.mul_le_mul_of_nonneg_left (show -900000001 ≤ y - 1 by omega) (show 0 ≤ pd by omega)
    omega
  unfold ys
  omega
theorem Cok.month {D : va_G} {q : Nat} {P : Int → Prop} {L : Int → Int} {U : State} (h : RuleAt D q P L U) {lp ep pd : Int} {fn fl : Nat → Int} {n : Nat} (hc : cM lp ep pd fn fl n) (H0 : Prop) :
    Cok (ys ep pd L) (fun _ => (n : Int)) (fun pl _ => fn pl.toNat) (laM lp pd fl) (coM H0) (yaM H0) := by
  obtain ⟨h1, h2, h3, h4, h5, h6, h7⟩ := hc
  have hI : Inc (ys ep pd L) := ys_inc h2.1 h.step
  have hs : ∀ y, ys ep pd L (y + 1) - ys ep pd L y = pd + bI (P y) := fun y => by rw [ys_step h.step]; omega
  have e1 := ys_1 ep pd L
  refine ⟨hI, fun y => ?_, fun y => ⟨by dsimp only; omega, by dsimp only; omega, fun j hj => ⟨?_, ?_⟩, ?_⟩, ?_, ?_, fun y hy => ?_, fun y => ?_⟩
  · rw [hs]; have := bI_01 (P y); omega
  · have hj : (j : Int) < n := hj
    have := h5 j (by omega)
    have b := bI_01 ((j : Int) = lp ∧ pd < ys ep pd L (y + 1) - ys ep pd L y)
    unfold laM
    rw [show ((j : Int)).toNat = j by omega]
    omega
  · show 0 ≤ fn (j : Int).toNat ∧ fn (j : Int).toNat ≤ 127
    rw [show ((j : Int)).toNat = j by omega]
    have hj : (j : Int) < n := hj
    have := h6 j (by omega)
    omega
  · rw [hs]
    have e : (fun j : Nat => laM lp pd fl j (pd + bI (P y))) = fun j => fl j + bI ((j : Int) = lp ∧ P y) := by
      funext j
      unfold laM
      rw [show ((j : Int)).toNat = j by omega]
      congr 1
      refine bI_iff ⟨fun z => ⟨z.1, Classical.byContradiction fun hn => ?_⟩, fun z => ⟨z.1, ?_⟩⟩
      · have := z.2; rw [bI_f hn] at this; omega
      · rw [bI_t z.2]; omega
    rw [e, show ((n : Int)).toNat = n by omega, cm_bump h3.1 n, h7]
    congr 1
    exact bI_iff ⟨fun z => z.2, fun z => ⟨h3.2, z⟩⟩
  · have := hI.gap (show (-67108864 : Int) ≤ 1 by decide); omega
  · have := hI.gap (show (1 : Int) ≤ 67108864 by decide); omega
  · have := ys_rng h h1 h2 (y := y) (by omega); omega
  · unfold coM yaM
    have := bI_01 (¬ H0 ∧ y ≤ 0)
    omega
theorem Cok.week {D : va_G} {q : Nat} {P : Int → Prop} {L : Int → Int} {U : State} (h : RuleAt D q P L U) {ep : Int} (h1 : -1000000 ≤ ep ∧ ep ≤ 1000000) :
    Cok (wst (ys ep 365 L)) (fun d => Int.tdiv d 7) (fun pl _ => pl + 1) (fun _ _ => 7) (fun y => y) (fun y => y) := by
  have hs : ∀ y, ys ep 365 L (y + 1) = ys ep 365 L y + 365 + bI (P y) := fun y => ys_step h.step y
  have hI : Inc (ys ep 365 L) := ys_inc (by decide) h.step
  have hl : ∀ y, wst (ys ep 365 L) (y + 1) - wst (ys ep 365 L) y = 364 ∨ wst (ys ep 365 L) (y + 1) - wst (ys ep 365 L) y = 371 := fun y => by
    have := bI_01 (P y)
    have := wst_len (S := ys ep 365 L) y (by rw [hs]; omega) (by rw [hs]; omega)
    omega
  have e1 := ys_1 ep 365 L
  refine ⟨fun y => by have := hl y; omega, fun y => by have := hl y; omega, fun y => ?_, ?_, ?_, fun y hy => ?_, fun y => by dsimp only; omega⟩
  · rcases hl y with e | e <;> rw [e]
    · refine ⟨by decide, by decide, fun j hj => ⟨by dsimp only; decide, ?_⟩, ?_⟩
      · show 0 ≤ (j : Int) + 1 ∧ (j : Int) + 1 ≤ 127
        have : (j : Int) < 52 := hj
        omega
      · show cm (fun _ => 7) 52 = 364
        rw [cmS_const]; rfl
    · refine ⟨by decide, by decide, fun j hj => ⟨by dsimp only; decide, ?_⟩, ?_⟩
      · show 0 ≤ (j : Int) + 1 ∧ (j : Int) + 1 ≤ 127
        have : (j : Int) < 53 := hj
        omega
      · show cm (fun _ => 7) 53 = 371
        rw [cmS_const]; rfl
  · have := hI.gap (show (-67108864 : Int) ≤ 1 by decide); unfold wst; omega
  · have := hI.gap (show (1 : Int) ≤ 67108864 by decide); unfold wst; omega
  · have := ys_rng h h1 (pd := 365) (by omega) (y := y) (by omega); unfold wst; omega
theorem Cok.moon : Cok hst nmH maH laH (fun y => y) (fun y => y) := by
  have hr := hst_rng (y := 1) (by omega)
  have key : ∀ y, (hst (y + 1) - hst y = 353 ∨ hst (y + 1) - hst y = 354 ∨ hst (y + 1) - hst y = 355) ∨ (hst (y + 1) - hst y = 383 ∨ hst (y + 1) - hst y = 384 ∨ hst (y + 1) - hst y = 385) := fun y => by
    have := hst_len y; omega
  refine ⟨hst_inc, fun y => by have := key y; omega, fun y => ?_, ?_, ?_, fun y hy => ?_, fun y => by dsimp only; omega⟩
  · have nl : ∀ d : Int, d ≤ 355 → nmH d = 12 := fun d h => by unfold nmH; rw [bI_f (by omega)]; rfl
    have ng : ∀ d : Int, 355 < d → nmH d = 13 := fun d h => by unfold nmH; rw [bI_t h]; rfl
    have gen : ∀ d : Int, 1 ≤ nmH d ∧ nmH d ≤ 60 ∧ ∀ j : Nat, (j : Int) < nmH d → (1 ≤ laH j d ∧ laH j d ≤ 60) ∧ 0 ≤ maH j d ∧ maH j d ≤ 127 := fun d => by
      refine ⟨?_, ?_, fun j hj => ⟨?_, ?_⟩⟩
      · unfold nmH; have := bI_01 (355 < d); omega
      · unfold nmH; have := bI_01 (355 < d); omega
      · have := laH_rng j d; omega
      · have := maH_rng (pl := j) (d := d) ⟨by omega, hj⟩; omega
    rcases key y with (e | e | e) | (e | e | e) <;> rw [e] <;> refine ⟨(gen _).1, (gen _).2.1, (gen _).2.2, ?_⟩
    · rw [nl _ (by decide)]; exact cmH_353
    · rw [nl _ (by decide)]; exact cmH_354
    · rw [nl _ (by decide)]; exact cmH_355
    · rw [ng _ (by decide)]; exact cmH_383
    · rw [ng _ (by decide)]; exact cmH_384
    · rw [ng _ (by decide)]; exact cmH_385
  · unfold hst hla
    have a := bI_01 ((3 * hea (hmo (-67108864)) + 3) % 7 < 3)
    have b : hel (-67108864) ≤ -20000000000 := by unfold hel hpo; unfold hea hmo at a ⊢; omega
    split
    · omega
    · split <;> omega
  · unfold hst hla
    have a := bI_01 ((3 * hea (hmo 67108864) + 3) % 7 < 3)
    have b : 20000000000 ≤ hel 67108864 := by unfold hel hpo; unfold hea hmo at a ⊢; omega
    split
    · omega
    · split <;> omega
  · have a := bI_01 ((3 * hea (hmo y) + 3) % 7 < 3)
    have b : -1000000000000 ≤ hel y ∧ hel y ≤ 1000000000000 := by unfold hel hpo; unfold hea hmo at a ⊢; omega
    unfold hst hla
    split
    · omega
    · split <;> omega
