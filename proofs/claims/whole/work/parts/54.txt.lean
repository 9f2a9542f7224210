/-! 54.txt: laid by program (wip/whole) -/
/-! texts in a StringBuilder -/
def cpB (f g : Nat → Int) (k : Nat) : Nat → Int := fun j => if j < k then f j else g j
def TXT (z : Int) (tx : Nat → Int) (L : List Int) : Prop := (z = (L.length : Int) ∧ L.length ≤ 24) ∧ (∀ i : Nat, i < L.length → L[i]? = some (tx i)) ∧ ∀ j : Nat, 0 ≤ tx j ∧ tx j ≤ 127
theorem TXT.app {z : Int} {tx fo : Nat → Int} {L K : List Int} (h : TXT z tx L) (hk : ∀ j : Nat, (j : Int) < z → fo j = tx j) (h2 : ∀ i : Nat, i < K.length → K[i]? = some (fo (Int.toNat z + i))) (h3 : ∀ j : Nat, 0 ≤ fo j ∧ fo j ≤ 127) (hl : L.length + K.length ≤ 24) : TXT (z + (K.length : Int)) fo (L ++ K) := by
  obtain ⟨⟨hz, -⟩, h1, -⟩ := h
  refine ⟨⟨by rw [List.length_append]; omega, by rw [List.length_append]; omega⟩, fun i hi => ?_, h3⟩
  rw [List.length_append] at hi
  by_cases q : i < L.length
  · rw [List.getElem?_append_left q, h1 i q, hk i (by omega)]
  · rw [List.getElem?_append_right (by omega), h2 (i - L.length) (by omega)]
    congr 2
    omega
theorem TXT.push {z v : Int} {tx : Nat → Int} {L : List Int} (h : TXT z tx L) (hv : 0 ≤ v ∧ v ≤ 127) (hl : L.length < 24) : TXT (z + 1) (upF tx (Int.toNat z) v) (L ++ [v]) := by
  have hz := h.1.1
  refine h.app (K := [v]) (fun j hj => ?_) (fun i hi => ?_) (fun j => ?_) (by show L.length + 1 ≤ 24; omega)
  · show (if j = Int.toNat z then v else tx j) = tx j
    rw [if_neg (by omega)]
  · have : i = 0 := by have : i < 1 := hi; omega
    subst this
    show some v = some (if Int.toNat z + 0 = Int.toNat z then v else _)
    rw [if_pos (Nat.add_zero _)]
  · show 0 ≤ (if j = Int.toNat z then v else tx j) ∧ (if j = Int.toNat z then v else tx j) ≤ 127
    split
    · exact hv
    · exact h.2.2 j
theorem TXT.grow {z : Int} {tx : Nat → Int} {L : List Int} {k : Nat} (h : TXT z tx L) (hk : z ≤ k) : TXT z (cpB tx (fun _ => (0 : Int)) k) L := by
  have hz := h.1.1
  refine ⟨h.1, fun i hi => ?_, fun j => ?_⟩
  · rw [h.2.1 i hi]
    show some (tx i) = some (if i < k then tx i else 0)
    rw [if_pos (by omega)]
  · show 0 ≤ (if j < k then tx j else 0) ∧ (if j < k then tx j else 0) ≤ 127
    split
    · exact h.2.2 j
    · decide
def RWO (cp : Nat) (z : Int) (tx : Nat → Int) (L : List Int) : Prop := (cp = 16 ∨ cp = 34) ∧ z ≤ cp ∧ TXT z tx L
theorem TXT.nil {z : Int} {tx : Nat → Int} {L : List Int} (h : TXT z tx L) : TXT 0 tx [] := ⟨⟨rfl, by decide⟩, fun i hi => absurd hi (Nat.not_lt_zero _), h.2.2⟩
theorem fitsBy {v : Int} (h : 0 ≤ v ∧ v ≤ 127) : fits .byte (.int (iI v)) = true := by
  obtain ⟨k, rfl⟩ := Int.eq_ofNat_of_zero_le h.1
  have hk : k < 128 := by omega
  have key : ∀ k, k < 128 → fits .byte (.int (nI k)) = true := by decide +kernel
  rw [iI_nI]
  exact key k hk
section CPY
variable {p : Program} {l : Launch} {e : Env} {R : Room} {s : State} {m : MethodId} {args : Array Value} {below : List Frame} {meth : Method} {c : Code} {H : Heap} {locs : List Loc} {cells slots : Nat} {Q : State → Prop} {cc : ByteArray} {pc : Nat} {ls : Array Slot} {rest : List Value} {D : va_G} {cl : List vw_C} {tys : List (ClassId × FieldType)} {ws : va_W} {A : Nat → Prop} {H0 : Heap}
theorem ma_bcp (hexec : p.tables.exec = Jvm.exec) (hb : c.code = cc) (hml : c.maxLocals = ls.size) {own : String} {index : Nat} (hown : s.vm.findClass own = some m.cls) (hlink : (Cond.methodLink own index arraycopyName).before args s = true) (hts : ∀ w ∈ gw, w.before args s = true) (hN : NV s) (hK : va_K D cl tys s) (hP : va_P D cl ws H) (hD : va_D A ws) (hS : va_S A H0 H locs) (q0 q1 t0 t1 : Nat) {a0 a : Nat} {c0 c1 : ClassId} {n0 n1 : Nat} {f g : Nat → Int} (ha0 : ws[q0]? = some (a0, .inl (c0, n0, .inl (fun j => iI (f j))))) (ha1 : ws[q1]? = some (a, .inl (c1, n1, .inl (fun j => iI (g j))))) (ht0 : tys[t0]? = some (c0, .byte)) (ht1 : tys[t1]? = some (c1, .byte)) (hfit : ∀ j : Nat, 0 ≤ f j ∧ f j ≤ 127) {x : Int} (hx : x = n0 ∧ n0 ≤ n1 ∧ n1 ≤ 1000)
    (hframes : 1 ≤ R.frames) (hlocals : (rest.map fun v => v.category).sum + (nativeFrameWords "java/lang/System" "arraycopy" 5 + 11) ≤ R.locals) (hdg : decode cc pc = .ok (.invokestatic index, 3))
    (kk : ∀ (H1 : Heap) (locs1 : List Loc), va_P D cl (ws.set q1 (a, .inl (c1, n1, .inl (fun j => iI (cpB f g n0 j))))) H1 → va_D A (ws.set q1 (a, .inl (c1, n1, .inl (fun j => iI (cpB f g n0 j))))) → va_S A H0 H1 locs1 → W p l e R s m args below meth c H1 locs1 cells slots Q (F0 m (pc + 3) ls rest)) : W p l e R s m args below meth c H locs cells slots Q (F0 m pc ls (.int (iI x) :: .int (iI 0) :: .ref a :: .int (iI 0) :: .ref a0 :: rest)) := by
  obtain ⟨rfl, h1, h2⟩ := hx
  have ec : (iI (n0 : Int)).toNatClampNeg = n0 := by rw [iI_nI]; exact nI_clamp (by omega)
  have e0 : (iI 0).toNatClampNeg = 0 := by decide
  have ef : va_cpy (fun j => iI (f j)) (fun j => iI (g j)) 0 0 n0 = fun j => iI (cpB f g n0 j) := by
    funext j
    unfold va_cpy cpB
    by_cases q : j < n0
    · rw [if_pos (by omega), if_pos q]; congr 2; omega
    · rw [if_neg (by omega), if_neg q]
  refine va_copyi hexec hb hml hown hlink (hts _ (gw_t 300 (by decide +kernel) (by decide +kernel))) (hts _ (gw_t 299 (by decide +kernel) (by decide +kernel))) (hts _ (gw_t 28 (by decide +kernel) (by decide +kernel))) hK hP hD hS q0 q1 t0 t1 ha0 ha1 ht0 ht1 (by decide) (by decide) (by decide) (by rw [iI_nI]; exact nI_pos (by omega)) (by rw [e0, ec]; omega) (by rw [e0, ec]; omega) (fun i _ => fitsBy (hfit _)) hframes hlocals hdg (fun H1 locs1 k1 k2 k3 => kk H1 locs1 ?_ ?_ k3)
  · rw [e0, ec, ef] at k1; exact k1
  · rw [e0, ec, ef] at k2; exact k2
end CPY
theorem dOne_at {x : Int} (h : 0 ≤ x ∧ x < 100) : dOne x.toNat = .int (iI (48 + x % 10)) := by
  unfold dOne
  congr 2
  omega
theorem dTen_at {x : Int} (h : 0 ≤ x ∧ x < 100) : dTen x.toNat = .int (iI (48 + x / 10)) := by
  unfold dTen
  congr 2
  omega
theorem td_neg {x : Int} (h : x ≤ 0) : Int.tdiv x 100 = -((-x) / 100) := by
  have h1 := td_pos (x := -x) (y := 100) (by omega)
  rw [Int.neg_tdiv] at h1
  omega
theorem dgn100 {w : Int} (h : 100 ≤ w ∧ w ≤ 99999999) : dgn w = dgn (w / 100) + 2 := by
  unfold dgn
  (repeat' split) <;> omega
theorem dgn_neg (x : Int) : dgn (-x) = dgn x := by
  unfold dgn
  (repeat' split) <;> omega
theorem dgn_1 {w : Int} (h : 0 ≤ w ∧ w < 10) : dgn w = 1 := by unfold dgn; rw [if_pos (by omega)]
theorem dgn_2 {w : Int} (h : 10 ≤ w ∧ w < 100) : dgn w = 2 := by unfold dgn; rw [if_neg (by omega), if_pos (by omega)]
theorem dgl_2 {x : Int} (h : 0 ≤ x) : ∀ k : Nat, dgl x (k + 2) = dgl (x / 100) k ++ [48 + x / 10 % 10, 48 + x % 10]
  | 0 => by
    show [48 + x / 10 ^ 1 % 10, 48 + x / 10 ^ 0 % 10] = _
    rw [show (10 : Int) ^ 1 = 10 by decide, show (10 : Int) ^ 0 = 1 by decide, Int.ediv_one]
    rfl
  | k + 1 => by
    show (48 + x / 10 ^ (k + 2) % 10) :: dgl x (k + 2) = (48 + x / 100 / 10 ^ k % 10) :: dgl (x / 100) k ++ _
    have e1 : x / 100 / 10 ^ k = x / 10 ^ (k + 2) := by
      rw [Int.ediv_ediv_of_nonneg (by decide), show (10 : Int) ^ (k + 2) = 100 * 10 ^ k by rw [Int.pow_succ, Int.pow_succ]; omega]
    rw [dgl_2 h k, e1]
    rfl
def PT (f : Nat → Int) (o : Nat) (T : List Int) : Prop := ∀ i : Nat, i < T.length → T[i]? = some (f (o + i))
theorem PT.cons {f : Nat → Int} {o : Nat} {T : List Int} {v : Int} (h : PT f (o + 1) T) : PT (upF f o v) o (v :: T) := fun i hi => by
  cases i with
  | zero =>
    show some v = some (if o + 0 = o then v else _)
    rw [if_pos (Nat.add_zero _)]
  | succ i =>
    have h1 := h i (by have : i + 1 < T.length + 1 := hi; omega)
    show T[i]? = some (if o + (i + 1) = o then v else f (o + (i + 1)))
    rw [if_neg (by omega), h1]
    congr 2
    omega
def ab (x : Int) : Int := if x < 0 then -x else x
/-- the figures of x as they are put down from the last: those of w are still to come, T stands from pos on -/
def GC (x b0 ix sg : Int) (tx : Nat → Int) (w pos : Int) (f : Nat → Int) (T : List Int) : Prop :=
  ((0 ≤ w ∧ w ≤ 99999999) ∧ (0 ≤ b0 ∧ (sg = 0 ∨ sg = 1)) ∧ pos = b0 + sg + (dgn w : Int) ∧ pos + (T.length : Int) = ix) ∧ dgl (ab x) (dgn x) = dgl w (dgn w) ++ T ∧ (∀ j : Nat, 0 ≤ f j ∧ f j ≤ 127) ∧ (∀ j : Nat, (j : Int) < b0 → f j = tx j) ∧ PT f (Int.toNat pos) T
theorem upF_rng {f : Nat → Int} {o : Nat} {v : Int} (h : ∀ j : Nat, 0 ≤ f j ∧ f j ≤ 127) (hv : 0 ≤ v ∧ v ≤ 127) : ∀ j : Nat, 0 ≤ upF f o v j ∧ upF f o v j ≤ 127 := fun j => by
  show 0 ≤ (if j = o then v else f j) ∧ (if j = o then v else f j) ≤ 127
  split
  · exact hv
  · exact h j
theorem upF_lo {f tx : Nat → Int} {o : Nat} {v b0 : Int} (h : ∀ j : Nat, (j : Int) < b0 → f j = tx j) (ho : b0 ≤ o) : ∀ j : Nat, (j : Int) < b0 → upF f o v j = tx j := fun j hj => by
  show (if j = o then v else f j) = tx j
  rw [if_neg (by omega)]
  exact h j hj
theorem GC.step {x b0 ix sg w pos r : Int} {tx f : Nat → Int} {T : List Int} (h : GC x b0 ix sg tx w pos f T) (hw : 100 ≤ w) (hr : r = w % 100) :
    GC x b0 ix sg tx (w / 100) (pos + (-1) + (-1)) (upF (upF f (Int.toNat (pos + (-1))) (48 + r % 10)) (Int.toNat (pos + (-1) + (-1))) (48 + r / 10)) ((48 + r / 10) :: (48 + r % 10) :: T) := by
  obtain ⟨⟨h1, h2, h3, h4⟩, h5, h6, h7, h8⟩ := h
  have hd := dgn100 (w := w) (by omega)
  have hd2 := (dgn_ok (v := w / 100) (by omega)).1
  refine ⟨⟨by omega, h2, by omega, ?_⟩, ?_, upF_rng (upF_rng h6 (by omega)) (by omega), upF_lo (upF_lo h7 (by omega)) (by omega), ?_⟩
  · show pos + (-1) + (-1) + ((T.length + 1 + 1 : Nat) : Int) = ix
    omega
  · rw [h5, hd, dgl_2 h1.1, List.append_assoc, show 48 + w / 10 % 10 = 48 + r / 10 by omega, show 48 + w % 10 = 48 + r % 10 by omega]
    rfl
  · refine PT.cons ?_
    rw [show Int.toNat (pos + (-1) + (-1)) + 1 = Int.toNat (pos + (-1)) by omega]
    refine PT.cons ?_
    rw [show Int.toNat (pos + (-1)) + 1 = Int.toNat pos by omega]
    exact h8
theorem GC.one {x b0 ix sg w pos : Int} {tx f : Nat → Int} {T : List Int} (h : GC x b0 ix sg tx w pos f T) (hw : w < 10) :
    (pos + (-1) = b0 + sg ∧ b0 + sg + (dgn x : Int) = ix) ∧ (∀ j : Nat, 0 ≤ upF f (Int.toNat (pos + (-1))) (48 + w % 10) j ∧ upF f (Int.toNat (pos + (-1))) (48 + w % 10) j ≤ 127) ∧ (∀ j : Nat, (j : Int) < b0 → upF f (Int.toNat (pos + (-1))) (48 + w % 10) j = tx j) ∧ PT (upF f (Int.toNat (pos + (-1))) (48 + w % 10)) (Int.toNat (b0 + sg)) (dgl (ab x) (dgn x)) := by
  obtain ⟨⟨h1, h2, h3, h4⟩, h5, h6, h7, h8⟩ := h
  have hd := dgn_1 (w := w) (by omega)
  have e0 := congrArg List.length h5
  rw [List.length_append, dgl_len, dgl_len] at e0
  refine ⟨⟨by omega, by omega⟩, upF_rng h6 (by omega), upF_lo h7 (by omega), ?_⟩
  have e1 : dgl (ab x) (dgn x) = (48 + w % 10) :: T := by
    rw [h5, hd]
    show [48 + w / 10 ^ 0 % 10] ++ T = _
    rw [show (10 : Int) ^ 0 = 1 by decide, Int.ediv_one]
    rfl
  rw [e1, show Int.toNat (b0 + sg) = Int.toNat (pos + (-1)) by omega]
  refine PT.cons ?_
  rw [show Int.toNat (pos + (-1)) + 1 = Int.toNat pos by omega]
  exact h8
theorem GC.two {x b0 ix sg w pos : Int} {tx f : Nat → Int} {T : List Int} (h : GC x b0 ix sg tx w pos f T) (hw : 10 ≤ w ∧ w < 100) :
    (pos + (-1) + (-1) = b0 + sg ∧ b0 + sg + (dgn x : Int) = ix) ∧ (∀ j : Nat, 0 ≤ upF (upF f (Int.toNat (pos + (-1))) (48 + w % 10)) (Int.toNat (pos + (-1) + (-1))) (48 + w / 10) j ∧ upF (upF f (Int.toNat (pos + (-1))) (48 + w % 10)) (Int.toNat (pos + (-1) + (-1))) (48 + w / 10) j ≤ 127) ∧ (∀ j : Nat, (j : Int) < b0 → upF (upF f (Int.toNat (pos + (-1))) (48 + w % 10)) (Int.toNat (pos + (-1) + (-1))) (48 + w / 10) j = tx j) ∧ PT (upF (upF f (Int.toNat (pos + (-1))) (48 + w % 10)) (Int.toNat (pos + (-1) + (-1))) (48 + w / 10)) (Int.toNat (b0 + sg)) (dgl (ab x) (dgn x)) := by
  obtain ⟨⟨h1, h2, h3, h4⟩, h5, h6, h7, h8⟩ := h
  have hd := dgn_2 (w := w) (by omega)
  have e0 := congrArg List.length h5
  rw [List.length_append, dgl_len, dgl_len] at e0
  refine ⟨⟨by omega, by omega⟩, upF_rng (upF_rng h6 (by omega)) (by omega), upF_lo (upF_lo h7 (by omega)) (by omega), ?_⟩
  have e1 : dgl (ab x) (dgn x) = (48 + w / 10) :: (48 + w % 10) :: T := by
    rw [h5, hd, dgl_2 (k := 0) h1.1, show 48 + w / 10 % 10 = 48 + w / 10 by omega]
    rfl
  rw [e1, show Int.toNat (b0 + sg) = Int.toNat (pos + (-1) + (-1)) by omega]
  refine PT.cons ?_
  rw [show Int.toNat (pos + (-1) + (-1)) + 1 = Int.toNat (pos + (-1)) by omega]
  refine PT.cons ?_
  rw [show Int.toNat (pos + (-1)) + 1 = Int.toNat pos by omega]
  exact h8
theorem wr_neg {x : Int} (h : x < 0) : wr x = 45 :: dgl (ab x) (dgn x) := by
  unfold wr dec ab
  rw [if_pos h, if_pos h]
theorem wr_pos {x : Int} (h : ¬ x < 0) : wr x = dgl (ab x) (dgn x) := by
  unfold wr dec ab
  rw [if_neg h, if_neg h]
theorem wr_len {x : Int} : ((wr x).length : Int) = (dgn x : Int) + (if x < 0 then 1 else 0) := by
  by_cases h : x < 0
  · rw [wr_neg h, List.length_cons, dgl_len, if_pos h]; omega
  · rw [wr_pos h, dgl_len, if_neg h]; omega
theorem GC.start {x b0 ix sg w : Int} {tx : Nat → Int} (hr : -99999999 ≤ x ∧ x ≤ 99999999) (hw : w = ab x) (hb : 0 ≤ b0) (hs : (x < 0 ∧ sg = 1) ∨ (¬ x < 0 ∧ sg = 0)) (hix : ix = b0 + ((wr x).length : Int)) (ht : ∀ j : Nat, 0 ≤ tx j ∧ tx j ≤ 127) : GC x b0 ix sg tx w ix tx [] := by
  have e1 := wr_len (x := x)
  have e2 : dgn w = dgn x := by
    rw [hw]; unfold ab
    split
    · exact dgn_neg x
    · rfl
  have e3 : w = if x < 0 then -x else x := hw
  refine ⟨⟨?_, ⟨hb, by omega⟩, ?_, ?_⟩, ?_, ht, fun _ _ => rfl, fun i hi => absurd hi (Nat.not_lt_zero _)⟩
  · split at e3 <;> omega
  · rw [e2]; split at e1 <;> omega
  · show ix + ((0 : Nat) : Int) = ix; omega
  · rw [← hw, e2, List.append_nil]
theorem p10_8 (k : Nat) : k ≤ 7 ∨ (100000000 : Int) ≤ 10 ^ k := by
  rcases Nat.lt_or_ge k 8 with q | q
  · exact Or.inl (by omega)
  · exact Or.inr (by have := p10_mono (i := 8) (j := k) q; rw [show (10 : Int) ^ 8 = 100000000 by decide] at this; exact this)
theorem dgn_uniq {x : Int} {k : Nat} (hr : -99999999 ≤ x ∧ x ≤ 99999999) (hk : 1 ≤ k) (h1 : -(10 ^ k) < x ∧ x < 10 ^ k) (h2 : k = 1 ∨ 10 ^ (k - 1) ≤ x ∨ 10 ^ (k - 1) ≤ -x) : dgn x = k := by
  obtain ⟨a1, a2, a3⟩ := dgn_ok (v := x) (by omega)
  have key : ∀ i j : Nat, 1 ≤ j → (-(10 ^ i) < x ∧ x < 10 ^ i) → (j = 1 ∨ 10 ^ (j - 1) ≤ x ∨ 10 ^ (j - 1) ≤ -x) → 1 ≤ i → j ≤ i := fun i j hj u1 u2 hi => by
    rcases Nat.lt_or_ge i j with q | q
    · exfalso
      have := p10_mono (i := i) (j := j - 1) (by omega)
      rcases u2 with u2 | u2 | u2 <;> omega
    · exact q
  have b1 := key (dgn x) k hk (by omega) h2 a1.1
  have b2 := key k (dgn x) a1.1 h1 a3 hk
  omega

