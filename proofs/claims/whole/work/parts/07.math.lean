/-! pure: floors, rules of leap years, starts of years, rows of months -/
theorem dv_uniq {x c q r : Int} (h : x = c * q + r) (h0 : 0 ≤ r) (h1 : r < c) : x / c = q := by
  have hc : c ≠ 0 := by omega
  rw [h, Int.add_comm, Int.add_mul_ediv_left _ _ hc, Int.ediv_eq_zero_of_lt h0 h1, Int.zero_add]
theorem md_uniq {x c q r : Int} (h : x = c * q + r) (h0 : 0 ≤ r) (h1 : r < c) : x % c = r := by
  rw [h, Int.add_comm, Int.add_mul_emod_self_left, Int.emod_eq_of_lt h0 h1]
/-- the reference's div: the truncated quotient, one less where it is too large -/
theorem dv_floor {x n : Int} (hn : 0 < n) : x / n = if x.tdiv n * n > x then x.tdiv n - 1 else x.tdiv n := by
  have h1 := Int.tdiv_mul_add_tmod x n
  split
  · rename_i h
    have h2 : x.tmod n < 0 := by omega
    have h3 : -n < x.tmod n := by
      have := Int.lt_tmod_of_pos x hn
      omega
    refine dv_uniq (r := x.tmod n + n) ?_ (by omega) (by omega)
    rw [Int.mul_sub, Int.mul_one, Int.mul_comm]
    omega
  · rename_i h
    have h3 : x.tmod n < n := Int.tmod_lt_of_pos x hn
    refine dv_uniq (r := x.tmod n) ?_ (by omega) h3
    rw [Int.mul_comm]
    omega
theorem dv_rng {x n lo hi : Int} (hn : 0 < n) (hlo : lo ≤ x) (hhi : x ≤ hi) (h0 : lo ≤ 0) (h1 : 0 ≤ hi) : lo ≤ x / n ∧ x / n ≤ hi := by
  constructor
  · refine Int.le_ediv_of_mul_le hn ?_
    have := Int.mul_le_mul_of_nonpos_left (a := lo) (b := n) (c := 1) h0 (by omega)
    omega
  · by_cases hs : 0 ≤ x
    · have := Int.ediv_le_self n hs; omega
    · have := Int.ediv_neg_of_neg_of_pos (show x < 0 by omega) hn; omega
theorem md_rng {x n : Int} (hn : 0 < n) : 0 ≤ x % n ∧ x % n < n := ⟨Int.emod_nonneg x (by omega), Int.emod_lt_of_pos x hn⟩
/-- (a y + b) div c grows by one just where (a y + b) mod c is below a -/
theorem spread_step {z a c : Int} (h0 : 0 ≤ a) (h1 : a ≤ c) (hc : 0 < c) : z / c - (z - a) / c = bI (z % c < a) := by
  have h2 := Int.mul_ediv_add_emod z c
  have h3 := md_rng (x := z) hc
  by_cases h : z % c < a
  · rw [bI_t h, dv_uniq (x := z - a) (c := c) (q := z / c - 1) (r := z % c - a + c) (by rw [Int.mul_sub]; omega) (by omega) (by omega)]
    omega
  · rw [bI_f h, dv_uniq (x := z - a) (c := c) (q := z / c) (r := z % c - a) (by omega) (by omega) (by omega)]
    omega
/-- leap years: of four, of the century, the 2820-year cycle, the moon's nineteen -/
def ylS (a b c y : Int) : Prop := (a * y + b) % c < a
def lbS (a b c y : Int) : Int := (a * (y - 1) + b) / c
def yl0 (y : Int) : Prop := y % 4 = 0 ∧ (y % 100 ≠ 0 ∨ y % 400 = 0)
def lb0 (y : Int) : Int := (y - 1) / 4 - (y - 1) / 100 + (y - 1) / 400
def yl7 (y : Int) : Prop := yl0 y ∧ y % 4000 ≠ 0
def lb7 (y : Int) : Int := lb0 y - (y - 1) / 4000
def yl6 (y : Int) : Prop := (((y - 474) % 2820 + 512) * 31) % 128 < 31
def lb6 (y : Int) : Int := 683 * ((y - 474) / 2820) + (((y - 474) % 2820 + 511) * 31) / 128
theorem lbS_step {a b c : Int} (h0 : 0 ≤ a) (h1 : a ≤ c) (hc : 0 < c) (y : Int) : lbS a b c (y + 1) = lbS a b c y + bI (ylS a b c y) := by
  have h := spread_step (z := a * y + b) h0 h1 hc
  have e : a * y + b - a = a * (y - 1) + b := by rw [Int.mul_sub]; omega
  rw [e] at h
  unfold lbS ylS
  rw [← h, show y + 1 - 1 = y by omega]
  omega
theorem lb0_step (y : Int) : lb0 (y + 1) = lb0 y + bI (yl0 y) := by
  unfold lb0
  by_cases h : yl0 y
  · rw [bI_t h]; unfold yl0 at h; omega
  · rw [bI_f h]; unfold yl0 at h; omega
theorem lb7_step (y : Int) : lb7 (y + 1) = lb7 y + bI (yl7 y) := by
  unfold lb7
  rw [lb0_step]
  by_cases h : yl0 y
  · by_cases h2 : y % 4000 = 0
    · rw [bI_t h, bI_f (fun q : yl7 y => q.2 h2)]; omega
    · rw [bI_t h, bI_t (P := yl7 y) ⟨h, h2⟩]; omega
  · rw [bI_f h, bI_f (fun q : yl7 y => h q.1)]; unfold yl0 at h; omega
theorem lb6_step (y : Int) : lb6 (y + 1) = lb6 y + bI (yl6 y) := by
  unfold lb6
  obtain ⟨z, hz⟩ : ∃ z, z = y - 474 := ⟨_, rfl⟩
  have e1 : y + 1 - 474 = z + 1 := by omega
  have hc : (z % 2820 = 2819 ∧ (z + 1) / 2820 = z / 2820 + 1 ∧ (z + 1) % 2820 = 0) ∨ (z % 2820 < 2819 ∧ (z + 1) / 2820 = z / 2820 ∧ (z + 1) % 2820 = z % 2820 + 1) := by omega
  unfold yl6
  rw [e1, ← hz]
  rcases hc with ⟨h1, h2, h3⟩ | ⟨h1, h2, h3⟩
  · rw [h2, h3, h1, bI_f (by decide)]; omega
  · rw [h2, h3]
    have h4 := spread_step (z := (z % 2820 + 512) * 31) (a := 31) (c := 128) (by decide) (by decide) (by decide)
    rw [← h4, show (z % 2820 + 1 + 511) * 31 = (z % 2820 + 512) * 31 by omega, show (z % 2820 + 511) * 31 = (z % 2820 + 512) * 31 - 31 by omega]
    omega
/-- a row of years: each starts behind the one before -/
def Inc (S : Int → Int) : Prop := ∀ y, S y < S (y + 1)
theorem Inc.add {S : Int → Int} (h : Inc S) (a : Int) : ∀ n : Nat, S a + n ≤ S (a + n)
  | 0 => by simp
  | n + 1 => by
    have h1 := Inc.add h a n
    have h2 := h (a + n)
    rw [show a + ((n + 1 : Nat) : Int) = a + n + 1 by omega]
    omega
theorem Inc.gap {S : Int → Int} (h : Inc S) {a b : Int} (hab : a ≤ b) : S a + (b - a) ≤ S b := by
  obtain ⟨n, hn⟩ := Int.eq_ofNat_of_zero_le (show 0 ≤ b - a by omega)
  have := h.add a n
  rw [show a + (n : Int) = b by omega] at this
  omega
theorem Inc.lt {S : Int → Int} (h : Inc S) {a b : Int} (hab : a < b) : S a < S b := by
  have := h.gap (show a + 1 ≤ b by omega)
  have := h a
  omega
theorem Inc.le_of {S : Int → Int} (h : Inc S) {a b d : Int} (ha : S a ≤ d) (hb : d < S (b + 1)) : a ≤ b := by
  by_cases hc : a ≤ b
  · exact hc
  · have := h.gap (show b + 1 ≤ a by omega)
    omega
theorem Inc.uniq {S : Int → Int} (h : Inc S) {a b d : Int} (ha : S a ≤ d) (ha2 : d < S (a + 1)) (hb : S b ≤ d) (hb2 : d < S (b + 1)) : a = b := by
  have h1 := h.le_of ha hb2
  have h2 := h.le_of hb ha2
  omega
/-- the start of year y: epoch ep, pd days in a plain year, L leap days before -/
def ys (ep pd : Int) (L : Int → Int) (y : Int) : Int := ep + pd * (y - 1) + L y - L 1
theorem ys_1 (ep pd : Int) (L : Int → Int) : ys ep pd L 1 = ep := by unfold ys; simp
theorem ys_step {ep pd : Int} {L : Int → Int} {P : Int → Prop} (hL : ∀ y, L (y + 1) = L y + bI (P y)) (y : Int) : ys ep pd L (y + 1) = ys ep pd L y + pd + bI (P y) := by
  unfold ys
  rw [hL, show pd * (y + 1 - 1) = pd * (y - 1) + pd by rw [show y + 1 - 1 = (y - 1) + 1 by omega, Int.mul_add, Int.mul_one]]
  omega
theorem ys_inc {ep pd : Int} {L : Int → Int} {P : Int → Prop} (hp : 1 ≤ pd) (hL : ∀ y, L (y + 1) = L y + bI (P y)) : Inc (ys ep pd L) := fun y => by
  rw [ys_step hL]
  have := bI_01 (P y)
  omega
/-- whole cycles: n years with K leap years each, however many -/
theorem ys_cyc {ep pd n K : Int} {L : Int → Int} (hK : ∀ q, L (q * n + 1) = L 1 + q * K) (q : Int) : ys ep pd L (q * n + 1) = ep + q * (pd * n + K) := by
  unfold ys
  rw [hK, Int.mul_add, show q * n + 1 - 1 = q * n by omega, ← Int.mul_assoc, ← Int.mul_assoc, Int.mul_comm pd q]
  omega
theorem lb0_cyc (q : Int) : lb0 (q * 400 + 1) = lb0 1 + q * 97 := by unfold lb0; omega
theorem lb7_cyc (q : Int) : lb7 (q * 4000 + 1) = lb7 1 + q * 969 := by unfold lb7 lb0; omega
theorem lb6_cyc (q : Int) : lb6 (q * 2820 + 1) = lb6 1 + q * 683 := by unfold lb6; omega
theorem lbS_cyc {a b c : Int} (hc : 0 < c) (q : Int) : lbS a b c (q * c + 1) = lbS a b c 1 + q * a := by
  unfold lbS
  rw [show a * (q * c + 1 - 1) + b = b + c * (q * a) by rw [show q * c + 1 - 1 = q * c by omega, ← Int.mul_assoc, Int.mul_comm (a * q) c, Int.mul_comm a q]; omega, Int.add_mul_ediv_left _ _ (by omega), show a * (1 - 1) + b = b by simp]
/-- sums of the lengths of months -/
def cm (f : Nat → Int) : Nat → Int
  | 0 => 0
  | n + 1 => cm f n + f n
theorem cm_mono {f : Nat → Int} (h : ∀ n, 0 ≤ f n) (a : Nat) : ∀ n : Nat, cm f a ≤ cm f (a + n)
  | 0 => Int.le_refl _
  | n + 1 => by
    have h1 := cm_mono h a n
    have h2 := h (a + n)
    have e : cm f (a + (n + 1)) = cm f (a + n) + f (a + n) := rfl
    rw [e]
    omega
theorem cm_le {f : Nat → Int} (h : ∀ n, 0 ≤ f n) {a b : Nat} (hab : a ≤ b) : cm f a ≤ cm f b := by
  have := cm_mono h a (b - a)
  rw [show a + (b - a) = b by omega] at this
  exact this
theorem cm_uniq {f : Nat → Int} (h : ∀ n, 0 ≤ f n) {a b : Nat} {x : Int} (ha : cm f a ≤ x) (ha2 : x < cm f (a + 1)) (hb : cm f b ≤ x) (hb2 : x < cm f (b + 1)) : a = b := by
  by_cases h1 : a + 1 ≤ b
  · have := cm_le h h1; omega
  · by_cases h2 : b + 1 ≤ a
    · have := cm_le h h2; omega
    · omega
