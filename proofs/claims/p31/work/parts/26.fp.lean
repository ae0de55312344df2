/-! numbers with a point: halves, doubles, and what is left of one -/
theorem fp_leading {c a b p : Nat} (h1 : 2 ^ p ≤ c) (h2 : c < 2 ^ (p + 1)) : FP.Core.leading (c * 2 ^ a) (2 ^ b) = ((p + a : Nat) : Int) - (b : Int) := by
  have hc0 : c * 2 ^ a ≠ 0 := Nat.mul_ne_zero (by have := Nat.pos_of_ne_zero (Nat.pos_iff_ne_zero.mp (Nat.two_pow_pos p)); omega) (Nat.pos_iff_ne_zero.mp (Nat.two_pow_pos a))
  have hl : (c * 2 ^ a).log2 = p + a := by
    refine (Nat.log2_eq_iff hc0).mpr ⟨?_, ?_⟩
    · rw [Nat.pow_add]; exact Nat.mul_le_mul_right _ h1
    · rw [show p + a + 1 = (p + 1) + a by omega, Nat.pow_add]; exact Nat.mul_lt_mul_of_pos_right h2 (Nat.two_pow_pos a)
  unfold FP.Core.leading
  simp only [hl, Nat.log2_two_pow]
  rw [if_pos]
  rcases Nat.le_total b (p + a) with h | h
  · rw [show (((p + a : Nat) : Int) - (b : Int)).toNat = p + a - b by omega, show (-(((p + a : Nat) : Int) - (b : Int))).toNat = 0 by omega, ← Nat.pow_add, show b + (p + a - b) = p + a by omega, Nat.pow_zero, Nat.mul_one, Nat.pow_add]
    exact Nat.mul_le_mul_right _ h1
  · rw [show (((p + a : Nat) : Int) - (b : Int)).toNat = 0 by omega, show (-(((p + a : Nat) : Int) - (b : Int))).toNat = b - (p + a) by omega, Nat.pow_zero, Nat.mul_one, Nat.mul_assoc, ← Nat.pow_add]
    calc 2 ^ b = 2 ^ p * 2 ^ (a + (b - (p + a))) := by rw [← Nat.pow_add]; congr 1; omega
      _ ≤ _ := Nat.mul_le_mul_right _ h1
theorem fp_nearest {c m : Nat} : FP.Core.nearest (c * 2 ^ m) (2 ^ m) = c := by
  unfold FP.Core.nearest
  rw [Nat.mul_mod_left, if_pos (Nat.two_pow_pos m), Nat.mul_div_cancel _ (Nat.two_pow_pos m)]
theorem fp_rr {f : FP.Core.Fmt} {p : Nat} (hp : f.p = p + 1) {s : Bool} {c a b : Nat} {e q : Int} (h1 : 2 ^ p ≤ c) (h2 : c < 2 ^ (p + 1)) (hq : q = e + a - b) (hq1 : f.qmin ≤ q) (hq2 : q ≤ f.qmax) : FP.Core.roundRatio f s (c * 2 ^ a) (2 ^ b) e = .fin s c q := by
  have hc0 : c * 2 ^ a ≠ 0 := Nat.mul_ne_zero (by have := Nat.two_pow_pos p; omega) (Nat.pos_iff_ne_zero.mp (Nat.two_pow_pos a))
  have hqq : FP.Core.quantum f (c * 2 ^ a) (2 ^ b) e = q := by
    unfold FP.Core.quantum
    rw [fp_leading h1 h2, hp]
    omega
  unfold FP.Core.roundRatio
  rw [if_neg hc0, hqq]
  have hu : FP.Core.unitsNum (c * 2 ^ a) e q = c * 2 ^ (max a b) := by
    unfold FP.Core.unitsNum
    rw [Nat.mul_assoc, ← Nat.pow_add]; congr 2; omega
  have hd : FP.Core.unitsDen (2 ^ b) e q = 2 ^ (max a b) := by
    unfold FP.Core.unitsDen
    rw [← Nat.pow_add]; congr 1; omega
  unfold FP.Core.roundAt
  rw [hu, hd, fp_nearest]
  unfold FP.Core.settle
  rw [hp, if_pos h2]
  unfold FP.Core.bound
  rw [if_pos hq2]
/-- a number below that has its digits brought up -/
theorem fp_rr1 {f : FP.Core.Fmt} {p : Nat} (hp : f.p = p + 1) {s : Bool} {t j : Nat} {e q : Int} (h1 : 2 ^ p ≤ t * 2 ^ j) (h2 : t * 2 ^ j < 2 ^ (p + 1)) (hq : q = e - j) (hq1 : f.qmin ≤ q) (hq2 : q ≤ f.qmax) : FP.Core.roundRatio f s t 1 e = .fin s (t * 2 ^ j) q := by
  have ht0 : t ≠ 0 := by
    intro h0
    rw [h0, Nat.zero_mul] at h1
    have := Nat.two_pow_pos p; omega
  have hlt : t * 2 ^ j ≠ 0 := Nat.mul_ne_zero ht0 (Nat.pos_iff_ne_zero.mp (Nat.two_pow_pos j))
  have hj : t.log2 + j = p := by
    have ha : (t * 2 ^ j).log2 = t.log2 + j := by
      refine (Nat.log2_eq_iff hlt).mpr ⟨?_, ?_⟩
      · rw [Nat.pow_add]; exact Nat.mul_le_mul_right _ (Nat.log2_self_le ht0)
      · rw [show t.log2 + j + 1 = (t.log2 + 1) + j by omega, Nat.pow_add]; exact Nat.mul_lt_mul_of_pos_right Nat.lt_log2_self (Nat.two_pow_pos j)
    have hb : (t * 2 ^ j).log2 = p := (Nat.log2_eq_iff hlt).mpr ⟨h1, h2⟩
    omega
  have hle : FP.Core.leading t 1 = (t.log2 : Int) := by
    have h := fp_leading (c := t) (a := 0) (b := 0) (p := t.log2) (Nat.log2_self_le ht0) Nat.lt_log2_self
    rw [Nat.pow_zero, Nat.mul_one] at h
    rw [h]; omega
  have hqq : FP.Core.quantum f t 1 e = q := by
    unfold FP.Core.quantum
    rw [hle, hp]
    omega
  unfold FP.Core.roundRatio
  rw [if_neg ht0, hqq]
  have hu : FP.Core.unitsNum t e q = (t * 2 ^ j) * 2 ^ 0 := by
    unfold FP.Core.unitsNum
    rw [Nat.pow_zero, Nat.mul_one]; congr 2; omega
  have hd : FP.Core.unitsDen 1 e q = 2 ^ 0 := by
    unfold FP.Core.unitsDen
    rw [Nat.one_mul]; congr 1; omega
  unfold FP.Core.roundAt
  rw [hu, hd, fp_nearest]
  unfold FP.Core.settle
  rw [hp, if_pos h2]
  unfold FP.Core.bound
  rw [if_pos hq2]
theorem fp_dec {f : FP.Core.Fmt} {E t : Nat} (h1 : 1 ≤ E) (h2 : E < f.exps - 1) (ht : t < f.tails) : FP.Core.decode f (E * f.tails + t) = .fin false (f.tails + t) (f.qmin + ((E : Int) - 1)) := by
  have hT : 0 < f.tails := Nat.two_pow_pos _
  have a1 : (E * f.tails + t) % f.tails = t := by rw [Nat.mul_comm, Nat.mul_add_mod, Nat.mod_eq_of_lt ht]
  have a2 : (E * f.tails + t) / f.tails = E := by rw [Nat.mul_comm, Nat.mul_add_div hT, Nat.div_eq_of_lt ht, Nat.add_zero]
  have a3 : E % f.exps = E := Nat.mod_eq_of_lt (by omega)
  have a4 : E / f.exps = 0 := Nat.div_eq_of_lt (by omega)
  unfold FP.Core.decode FP.Core.fieldE FP.Core.fieldT FP.Core.fieldS
  rw [a2, a1, a3, a4, if_neg (by omega), if_neg (by omega)]
  rfl
theorem fp_enc {f : FP.Core.Fmt} {E t : Nat} {q : Int} (h1 : 1 ≤ E) (hq : q = f.qmin + ((E : Int) - 1)) : FP.Core.encode f (.fin false (f.tails + t) q) = E * f.tails + t := by
  unfold FP.Core.encode
  simp only []
  rw [if_neg (by omega)]
  unfold FP.Core.assemble
  rw [show (q - f.qmin).toNat + 1 = E by omega, show f.tails + t - f.tails = t by omega]
  simp
