/-! sums, ranges of numbers, what a board finds -/
theorem mI_of {j w v : Nat} (hv : v = 8 + w) : (8 : Int32) + 10 * nI j + nI w = nI (v + 10 * j) := by
  subst hv
  show Int32.ofNat 8 + Int32.ofNat 10 * Int32.ofNat j + Int32.ofNat w = Int32.ofNat (8 + w + 10 * j)
  rw [← Int32.ofNat_mul, ← Int32.ofNat_add, ← Int32.ofNat_add]
  congr 1; omega
theorem mI_ln {j w v : Nat} (hv : v = 38 + w) : (38 : Int32) + 3 * nI j + nI w = nI (v + 3 * j) := by
  subst hv
  show Int32.ofNat 38 + Int32.ofNat 3 * Int32.ofNat j + Int32.ofNat w = Int32.ofNat (38 + w + 3 * j)
  rw [← Int32.ofNat_mul, ← Int32.ofNat_add, ← Int32.ofNat_add]
  congr 1; omega
/-- the three of a place -/
def sm3 (R : Nat → Int32) (v : Nat) : Int32 := R (v + 10 * 0) + R (v + 10 * 1) + R (v + 10 * 2)
theorem sm3_o {R : Nat → Int32} {v : Nat} (h : ∀ i, i < 3 → R (v + 10 * i) = 0 ∨ R (v + 10 * i) = 1) : sm3 R v = osum R v 3 := by
  have h0 := h 0 (by omega); have h1 := h 1 (by omega); have h2 := h 2 (by omega)
  unfold sm3
  rw [osum, osum, osum, osum]
  rcases h0 with h0 | h0 <;> rcases h1 with h1 | h1 <;> rcases h2 with h2 | h2 <;> rw [h0, h1, h2] <;> decide
theorem sm3_al {R : Nat → Int32} (h : bz R) : (0 < sm3 R 12) ↔ ¬ alv R = 0 := by
  have h0 := (h.1 0 (by omega)).2; have h1 := (h.1 1 (by omega)).2; have h2 := (h.1 2 (by omega)).2
  unfold sm3 alv
  simp only [Nat.mul_zero, Nat.add_zero, Nat.mul_one, Nat.reduceAdd, Nat.reduceMul] at h0 h1 h2 ⊢
  rcases h0 with h0 | h0 <;> rcases h1 with h1 | h1 <;> rcases h2 with h2 | h2 <;> rw [h0, h1, h2] <;> decide
def wz (R : Nat → Int32) : Prop := bz R ∧ (∀ i, i < 3 → ¬ R (9 + 10 * i) = 0) ∧ -2147483647 ≤ ld R - tot R (fq R)
theorem al_le {R : Nat → Int32} (h : bz R) (q : sm3 R 12 ≤ 0) : alv R = 0 := by
  rcases Classical.em (alv R = 0) with e | e
  · exact e
  · exact absurd ((sm3_al h).mpr e) (Int32.not_lt.mpr q)
theorem al_gt {R : Nat → Int32} (h : bz R) (q : ¬ sm3 R 12 ≤ 0) : alv R = 1 := by
  have e := (sm3_al h).mp (Int32.not_le.mp q)
  unfold alv at e ⊢
  split
  · rename_i q2
    rw [if_pos q2] at e
    exact absurd rfl e
  · rfl
theorem tot3 {R : Nat → Int32} {f : Int32} : gv R 0 f + gv R 1 f + gv R 2 f = tot R f := by
  unfold tot
  rw [tsum, tsum, tsum, tsum, Int32.zero_add]
theorem ls_on {R : Nat → Int32} {i : Nat} (h : R (39 + 3 * i) = 1) : lsum R (i + 1) = lsum R i + R (38 + 3 * i) := by
  rw [lsum, if_neg (by rw [h]; decide)]
theorem ls_off {R : Nat → Int32} {i : Nat} (hb : bz R) (hi : i < 4) (h : ¬ R (39 + 3 * i) = 1) : lsum R (i + 1) = lsum R i + 0 := by
  rw [lsum, if_pos ((hb.2 i hi).resolve_right h), Int32.add_zero]
theorem lam_m1 {x : Int32} (h : x < 1000 - x) : lam x = x := by
  unfold lam mn
  exact if_neg (Int32.not_lt.mpr (Int32.le_of_lt h))
theorem lam_m2 {x : Int32} (h : 1000 - x ≤ x) : lam x = 1000 - x := by
  unfold lam mn
  by_cases q : 1000 - x < x
  · exact if_pos q
  · exact (if_neg q).trans (Int32.le_antisymm (Int32.not_lt.mp q) h)
theorem mI_l1 (j : Nat) : (38 : Int32) + 3 * nI j + 1 = nI (39 + 3 * j) := mI_ln (j := j) (w := 1) (v := 39) rfl
theorem mI_l2 (j : Nat) : (38 : Int32) + 3 * nI j + 2 = nI (40 + 3 * j) := mI_ln (j := j) (w := 2) (v := 40) rfl
theorem fmd_rem (x : Int32) : (x - x / 1000 * 1000).toInt = x.toInt.tmod 1000 := by
  have h := x.toInt_lt; have h0 := x.le_toInt
  have e1 : (x / 1000).toInt = x.toInt.tdiv 1000 := by
    rw [Int32.toInt_div_of_ne_right _ _ (by decide)]; rfl
  have hm := Int.tdiv_mul_add_tmod x.toInt 1000
  have h1 := Int.tmod_lt_of_pos x.toInt (show (0 : Int) < 1000 by decide)
  have h2 := Int.lt_tmod_of_pos x.toInt (show (0 : Int) < 1000 by decide)
  have h3 : x.toInt < 0 → x.toInt.tmod 1000 ≤ 0 := fun q => by
    have := Int.neg_tmod x.toInt 1000
    have h4 := Int.tmod_nonneg 1000 (show 0 ≤ -x.toInt by omega)
    omega
  have h5 : 0 ≤ x.toInt → 0 ≤ x.toInt.tmod 1000 := fun q => Int.tmod_nonneg 1000 q
  rw [Int32.toInt_sub, Int32.toInt_mul, e1, show (1000 : Int32).toInt = 1000 by decide]
  rw [Int.bmod_eq_of_le (n := x.toInt.tdiv 1000 * 1000) (by omega) (by omega), Int.bmod_eq_of_le (by omega) (by omega)]
  omega
theorem fmd_sg2 (x : Int32) : (x.toInt < 0 → x.toInt.tmod 1000 ≤ 0) ∧ (0 ≤ x.toInt → 0 ≤ x.toInt.tmod 1000) := by
  refine ⟨fun q => ?_, fun q => Int.tmod_nonneg 1000 q⟩
  have := Int.neg_tmod x.toInt 1000
  have h4 := Int.tmod_nonneg 1000 (show 0 ≤ -x.toInt by omega)
  omega
theorem fmd_sgn (x : Int32) : (0 ≤ x ^^^ 1000) ↔ 0 ≤ x := by
  rw [Int32.le_iff_toInt_le, Int32.le_iff_toInt_le]
  show 0 ≤ (x ^^^ 1000).toBitVec.toInt ↔ 0 ≤ x.toBitVec.toInt
  have hs : ∀ b : BitVec 32, 0 ≤ b.toInt ↔ b.msb = false := fun b => by
    rw [BitVec.toInt_eq_msb_cond]
    have := b.isLt
    cases q : b.msb <;> simp <;> omega
  rw [hs, hs, Int32.toBitVec_xor, BitVec.msb_xor, show (Int32.toBitVec 1000).msb = false by decide, Bool.xor_false]
/-- the turn's rest, where it is less than nothing -/
theorem fmd_n {x : Int32} (h : ¬ 0 ≤ x - x / 1000 * 1000) : fmd x 1000 = x - x / 1000 * 1000 + 1000 := by
  have e := fmd_rem x; have g := fmd_sg2 x
  have h' : (x - x / 1000 * 1000).toInt < 0 := by
    rw [Int32.le_iff_toInt_le] at h
    have : (0 : Int32).toInt = 0 := by decide
    omega
  have hx : ¬ 0 ≤ x ^^^ 1000 := by
    rw [fmd_sgn, Int32.le_iff_toInt_le]
    have : (0 : Int32).toInt = 0 := by decide
    intro q
    have := g.2 (by omega)
    omega
  unfold fmd
  rw [if_neg hx, if_neg]
  intro q
  rw [q] at h'
  exact absurd h' (by decide)
theorem fmd_p {x : Int32} (h : 0 ≤ x - x / 1000 * 1000) : fmd x 1000 = x - x / 1000 * 1000 := by
  have e := fmd_rem x; have g := fmd_sg2 x
  have h' : 0 ≤ (x - x / 1000 * 1000).toInt := by
    rw [Int32.le_iff_toInt_le] at h
    have : (0 : Int32).toInt = 0 := by decide
    omega
  unfold fmd
  split
  · rfl
  · rename_i q
    rw [fmd_sgn, Int32.le_iff_toInt_le] at q
    have h0 : (0 : Int32).toInt = 0 := by decide
    rw [if_pos]
    apply Int32.toInt_inj.mp
    have := g.1 (by omega)
    omega


