/-! the same for the 64 bits -/
def dE (e t : Nat) : UInt64 := UInt64.ofNat (e * 4503599627370496 + t)
theorem b64_t : FP.Core.b64.tails = 4503599627370496 := by decide +kernel
theorem b64_e : FP.Core.b64.exps = 2048 := by decide +kernel
theorem b64_q : FP.Core.b64.qmin = -1074 := by decide +kernel
theorem b64_x : FP.Core.b64.qmax = 971 := by decide +kernel
theorem dE_nat {e t : Nat} (he : e < 2048) (ht : t < 4503599627370496) : (dE e t).toNat = e * 4503599627370496 + t := by
  unfold dE
  rw [UInt64.toNat_ofNat']
  omega
theorem dE_dec {e t : Nat} (h1 : 1 ≤ e) (h2 : e < 2047) (ht : t < 4503599627370496) : FP.Core.decode FP.Core.b64 (dE e t).toNat = .fin false (4503599627370496 + t) ((e : Int) - 1075) := by
  have h := fp_dec (f := FP.Core.b64) (E := e) (t := t) h1 (by rw [b64_e]; omega) (by rw [b64_t]; exact ht)
  rw [b64_t, b64_q] at h
  rw [dE_nat (by omega) ht, h]
  congr 1; omega
theorem dE_enc {e t : Nat} {q : Int} (h1 : 1 ≤ e) (hq : q = (e : Int) - 1075) : UInt64.ofNat (FP.Core.encode FP.Core.b64 (.fin false (4503599627370496 + t) q)) = dE e t := by
  have h := fp_enc (f := FP.Core.b64) (E := e) (t := t) (q := q) h1 (by rw [b64_q]; omega)
  rw [b64_t] at h
  rw [h]; rfl
theorem dE_n {e t : Nat} (he : e < 2047) (ht : t < 4503599627370496) : vf_n64 (dE e t) := by
  show dE e t &&& 0x7fffffffffffffff ≤ 0x7ff0000000000000
  rw [UInt64.le_iff_toNat_le, UInt64.toNat_and, dE_nat (by omega) ht, show (0x7fffffffffffffff : UInt64).toNat = 2 ^ 63 - 1 by decide, Nat.and_two_pow_sub_one_eq_mod, show (0x7ff0000000000000 : UInt64).toNat = 2047 * 4503599627370496 by decide]
  omega
theorem d2_dec : FP.Core.decode FP.Core.b64 (4611686018427387904 : UInt64).toNat = .fin false 4503599627370496 (-51) := by decide +kernel
theorem d1_dec : FP.Core.decode FP.Core.b64 (FP.dconst1 : UInt64).toNat = .fin false 4503599627370496 (-52) := by decide +kernel
theorem dM_dec : FP.Core.decode FP.Core.b64 (4841369599423283200 : UInt64).toNat = .fin false 4503599627370496 0 := by decide +kernel
theorem d_half {e t : Nat} (h1 : 2 ≤ e) (h2 : e < 2047) (ht : t < 4503599627370496) : FP.ddiv (dE e t) 4611686018427387904 = dE (e - 1) t := by
  show UInt64.ofNat (FP.Core.encode FP.Core.b64 (FP.Core.quotient FP.Core.b64 (FP.Core.decode FP.Core.b64 (dE e t).toNat) (FP.Core.decode FP.Core.b64 (4611686018427387904 : UInt64).toNat))) = _
  rw [dE_dec (by omega) h2 ht, d2_dec]
  have h := fp_rr (f := FP.Core.b64) (p := 52) rfl (s := false) (c := 4503599627370496 + t) (a := 0) (b := 52) (e := (e : Int) - 1075 - (-51)) (q := ((e - 1 : Nat) : Int) - 1075) (by omega) (by omega) (by omega) (by rw [b64_q]; omega) (by rw [b64_x]; omega)
  rw [show (4503599627370496 + t) * 2 ^ 0 = 4503599627370496 + t by omega, show (2 : Nat) ^ 52 = 4503599627370496 by decide] at h
  have hq : FP.Core.quotient FP.Core.b64 (.fin false (4503599627370496 + t) ((e : Int) - 1075)) (.fin false 4503599627370496 (-51)) = .fin false (4503599627370496 + t) (((e - 1 : Nat) : Int) - 1075) := by
    unfold FP.Core.quotient
    simp only []
    rw [if_neg (by decide)]
    exact h
  rw [hq]
  exact dE_enc (by omega) rfl
theorem d_dbl {e t : Nat} (h1 : 1 ≤ e) (h2 : e < 2046) (ht : t < 4503599627370496) : FP.dmul (dE e t) 4611686018427387904 = dE (e + 1) t := by
  show UInt64.ofNat (FP.Core.encode FP.Core.b64 (FP.Core.round FP.Core.b64 (FP.Core.exactProduct (FP.Core.decode FP.Core.b64 (dE e t).toNat) (FP.Core.decode FP.Core.b64 (4611686018427387904 : UInt64).toNat)))) = _
  rw [dE_dec (by omega) (by omega) ht, d2_dec]
  have h := fp_rr (f := FP.Core.b64) (p := 52) rfl (s := false) (c := 4503599627370496 + t) (a := 52) (b := 0) (e := (e : Int) - 1075 + (-51)) (q := ((e + 1 : Nat) : Int) - 1075) (by omega) (by omega) (by omega) (by rw [b64_q]; omega) (by rw [b64_x]; omega)
  rw [show (2 : Nat) ^ 52 = 4503599627370496 by decide, Nat.pow_zero] at h
  have hq : FP.Core.round FP.Core.b64 (FP.Core.exactProduct (.fin false (4503599627370496 + t) ((e : Int) - 1075)) (.fin false 4503599627370496 (-51))) = .fin false (4503599627370496 + t) (((e + 1 : Nat) : Int) - 1075) := h
  rw [hq]
  exact dE_enc (by omega) rfl
/-- which of the two is the greater, by their exponents -/
theorem fp_lt {c d : Nat} {q r : Int} {p : Nat} (h1 : 2 ^ p ≤ c) (h2 : c < 2 ^ (p + 1)) (hd : d = 2 ^ p) (h : q < r) : FP.Core.order (.fin false c q) (.fin false d r) = some .lt := by
  have hx : (FP.Core.signed false (FP.Core.inUnits c q (min q r)) : Int) < FP.Core.signed false (FP.Core.inUnits d r (min q r)) := by
    show ((FP.Core.inUnits c q (min q r) : Nat) : Int) < ((FP.Core.inUnits d r (min q r) : Nat) : Int)
    unfold FP.Core.inUnits
    rw [show min q r = q by omega, show (q - q).toNat = 0 by omega, Nat.pow_zero, Nat.mul_one, hd]
    have : 2 ^ (p + 1) ≤ 2 ^ p * 2 ^ (r - q).toNat := by rw [← Nat.pow_add]; exact Nat.pow_le_pow_right (by decide) (by omega)
    omega
  show some (compareOfLessAndEq _ _) = _
  unfold compareOfLessAndEq
  rw [if_pos hx]
theorem fp_nlt {c d : Nat} {q r : Int} {p : Nat} (h1 : 2 ^ p ≤ c) (hd : d = 2 ^ p) (h : r ≤ q) : FP.Core.order (.fin false c q) (.fin false d r) = some .eq ∨ FP.Core.order (.fin false c q) (.fin false d r) = some .gt := by
  have hx : ¬ (FP.Core.signed false (FP.Core.inUnits c q (min q r)) : Int) < FP.Core.signed false (FP.Core.inUnits d r (min q r)) := by
    show ¬ ((FP.Core.inUnits c q (min q r) : Nat) : Int) < ((FP.Core.inUnits d r (min q r) : Nat) : Int)
    unfold FP.Core.inUnits
    rw [show min q r = r by omega, show (r - r).toNat = 0 by omega, Nat.pow_zero, Nat.mul_one, hd]
    have : c * 1 ≤ c * 2 ^ (q - r).toNat := Nat.mul_le_mul_left _ (Nat.two_pow_pos _)
    omega
  show some (compareOfLessAndEq _ _) = _ ∨ some (compareOfLessAndEq _ _) = _
  unfold compareOfLessAndEq
  rw [if_neg hx]
  split
  · exact Or.inl rfl
  · exact Or.inr rfl
theorem d_lt2 {e t : Nat} {op : CmpOp} (h1 : 1 ≤ e) (h2 : e < 1024) (ht : t < 4503599627370496) : Op.cmpValue (FP.dcmp (dE e t) 4611686018427387904) op < 0 := by
  have h : FP.dcmp (dE e t) 4611686018427387904 = some .lt := by
    show FP.Core.order _ _ = _
    rw [dE_dec h1 (by omega) ht, d2_dec]
    exact fp_lt (p := 52) (by omega) (by omega) (by decide) (by omega)
  rw [h]; cases op <;> decide
theorem d_ge2 {e t : Nat} {op : CmpOp} (h1 : 1024 ≤ e) (h2 : e < 2047) (ht : t < 4503599627370496) : ¬ Op.cmpValue (FP.dcmp (dE e t) 4611686018427387904) op < 0 := by
  have h : FP.dcmp (dE e t) 4611686018427387904 = some .eq ∨ FP.dcmp (dE e t) 4611686018427387904 = some .gt := by
    show FP.Core.order _ _ = _ ∨ FP.Core.order _ _ = _
    rw [dE_dec (by omega) h2 ht, d2_dec]
    exact fp_nlt (p := 52) (by omega) (by decide) (by omega)
  rcases h with h | h <;> rw [h] <;> cases op <;> decide
theorem d_lt1 {e t : Nat} {op : CmpOp} (h1 : 1 ≤ e) (h2 : e < 1023) (ht : t < 4503599627370496) : Op.cmpValue (FP.dcmp (dE e t) FP.dconst1) op < 0 := by
  have h : FP.dcmp (dE e t) FP.dconst1 = some .lt := by
    show FP.Core.order _ _ = _
    rw [dE_dec h1 (by omega) ht, d1_dec]
    exact fp_lt (p := 52) (by omega) (by omega) (by decide) (by omega)
  rw [h]; cases op <;> decide
theorem d_ge1 {e t : Nat} {op : CmpOp} (h1 : 1023 ≤ e) (h2 : e < 2047) (ht : t < 4503599627370496) : ¬ Op.cmpValue (FP.dcmp (dE e t) FP.dconst1) op < 0 := by
  have h : FP.dcmp (dE e t) FP.dconst1 = some .eq ∨ FP.dcmp (dE e t) FP.dconst1 = some .gt := by
    show FP.Core.order _ _ = _ ∨ FP.Core.order _ _ = _
    rw [dE_dec (by omega) h2 ht, d1_dec]
    exact fp_nlt (p := 52) (by omega) (by decide) (by omega)
  rcases h with h | h <;> rw [h] <;> cases op <;> decide
theorem d_gt0 {e t : Nat} {op : CmpOp} (h1 : 1 ≤ e) (h2 : e < 2047) (ht : t < 4503599627370496) : (0 : Int32) < Op.cmpValue (FP.dcmp (dE e t) FP.dconst0) op := by
  have h : FP.dcmp (dE e t) FP.dconst0 = some .gt := by
    show FP.Core.order _ _ = _
    rw [dE_dec h1 h2 ht, show FP.Core.decode FP.Core.b64 (FP.dconst0 : UInt64).toNat = .fin false 0 (-1074) by decide +kernel]
    have hx : ¬ (FP.Core.signed false (FP.Core.inUnits (4503599627370496 + t) ((e : Int) - 1075) (min ((e : Int) - 1075) (-1074))) : Int) < FP.Core.signed false (FP.Core.inUnits 0 (-1074) (min ((e : Int) - 1075) (-1074))) ∧ ¬ (FP.Core.signed false (FP.Core.inUnits (4503599627370496 + t) ((e : Int) - 1075) (min ((e : Int) - 1075) (-1074))) : Int) = FP.Core.signed false (FP.Core.inUnits 0 (-1074) (min ((e : Int) - 1075) (-1074))) := by
      show ¬ ((FP.Core.inUnits _ _ _ : Nat) : Int) < ((FP.Core.inUnits _ _ _ : Nat) : Int) ∧ ¬ ((FP.Core.inUnits _ _ _ : Nat) : Int) = ((FP.Core.inUnits _ _ _ : Nat) : Int)
      unfold FP.Core.inUnits
      rw [Nat.zero_mul]
      have : (4503599627370496 + t) * 1 ≤ (4503599627370496 + t) * 2 ^ ((e : Int) - 1075 - min ((e : Int) - 1075) (-1074)).toNat := Nat.mul_le_mul_left _ (Nat.two_pow_pos _)
      omega
    show some (compareOfLessAndEq _ _) = _
    unfold compareOfLessAndEq
    rw [if_neg hx.1, if_neg hx.2]
  rw [h]; cases op <;> decide

theorem d_bits {e t : Nat} (h1 : 1 ≤ e) (h2 : e < 2047) (ht : t < 4503599627370496) : ((nI e).toInt64 <<< (((52 : Int32)).toInt64 &&& 63)) + Int64.ofNat t = (dE e t).toInt64 := by
  have e1 : (nI e).toInt64 = Int64.ofNat e := by
    apply Int64.toInt_inj.mp
    rw [Int32.toInt_toInt64, Int64.toInt_ofNat_of_lt (by omega)]
    exact nI_toInt (by omega)
  rw [e1, show ((52 : Int32).toInt64 &&& 63) = 52 by decide]
  have e2 : (Int64.ofNat e <<< (52 : Int64)) = Int64.ofNat (e * 4503599627370496) := by
    apply Int64.toBitVec_inj.mp
    rw [Int64.toBitVec_shiftLeft]
    show (BitVec.ofNat 64 e <<< (52 : BitVec 64).smod 64) = BitVec.ofNat 64 (e * 4503599627370496)
    apply BitVec.eq_of_toNat_eq
    rw [show (52 : BitVec 64).smod 64 = (52 : BitVec 64) by decide, BitVec.shiftLeft_eq', BitVec.toNat_shiftLeft, BitVec.toNat_ofNat, BitVec.toNat_ofNat, Nat.shiftLeft_eq, show (52 : BitVec 64).toNat = 52 by decide, show (2 : Nat) ^ 52 = 4503599627370496 by decide, Nat.mod_eq_of_lt (show e < 2 ^ 64 by omega)]
  rw [e2, ← Int64.ofNat_add]
  rfl
theorem d_t0 : FP.dsub (dE 1023 0) FP.dconst1 = FP.dconst0 ∧ FP.dmul FP.dconst0 4841369599423283200 = FP.dconst0 ∧ FP.d2l FP.dconst0 = 0 := by decide +kernel
theorem d_frac {t : Nat} (ht : t < 4503599627370496) : ∃ u v, FP.dsub (dE 1023 t) FP.dconst1 = u ∧ vf_n64 u ∧ FP.dmul u 4841369599423283200 = v ∧ vf_n64 v ∧ FP.d2l v = Int64.ofNat t := by
  rcases Nat.eq_zero_or_pos t with rfl | h0
  · exact ⟨_, _, d_t0.1, (by unfold vf_n64; decide), d_t0.2.1, (by unfold vf_n64; decide), d_t0.2.2⟩
  have hlt : t.log2 < 52 := (Nat.log2_lt (by omega)).mpr ht
  obtain ⟨j, hj⟩ : ∃ j, t.log2 + j = 52 := ⟨52 - t.log2, by omega⟩
  have hc1 : 2 ^ 52 ≤ t * 2 ^ j := by
    rw [← hj, Nat.pow_add]; exact Nat.mul_le_mul_right _ (Nat.log2_self_le (by omega))
  have hc2 : t * 2 ^ j < 2 ^ 53 := by
    rw [show 53 = (t.log2 + 1) + j by omega, Nat.pow_add]; exact Nat.mul_lt_mul_of_pos_right Nat.lt_log2_self (Nat.two_pow_pos j)
  obtain ⟨x, hx⟩ : ∃ x, t * 2 ^ j = 4503599627370496 + x := ⟨t * 2 ^ j - 4503599627370496, by omega⟩
  have hx2 : x < 4503599627370496 := by omega
  refine ⟨dE (1023 - j) x, dE (1075 - j) x, ?_, dE_n (by omega) hx2, ?_, dE_n (by omega) hx2, ?_⟩
  · show UInt64.ofNat (FP.Core.encode FP.Core.b64 (FP.Core.round FP.Core.b64 (FP.Core.exactSum (FP.Core.decode FP.Core.b64 (dE 1023 t).toNat) (FP.Core.negate (FP.Core.decode FP.Core.b64 (FP.dconst1 : UInt64).toNat))))) = _
    rw [dE_dec (by omega) (by omega) ht, d1_dec]
    have hs : FP.Core.exactSum (.fin false (4503599627370496 + t) (((1023 : Nat) : Int) - 1075)) (FP.Core.negate (.fin false 4503599627370496 (-52))) = .fin false t (-52) := by
      have hv : FP.Core.sumUnits false (4503599627370496 + t) (((1023 : Nat) : Int) - 1075) true 4503599627370496 (-52) (-52) = (t : Int) := by
        show (((4503599627370496 + t) * 2 ^ 0 : Nat) : Int) + -(((4503599627370496 * 2 ^ 0 : Nat) : Int)) = _
        omega
      show FP.Core.Datum.fin (FP.Core.sumSign false true (FP.Core.sumUnits false (4503599627370496 + t) (((1023 : Nat) : Int) - 1075) true 4503599627370496 (-52) (-52))) (FP.Core.sumUnits false (4503599627370496 + t) (((1023 : Nat) : Int) - 1075) true 4503599627370496 (-52) (-52)).natAbs (-52) = _
      rw [hv]
      unfold FP.Core.sumSign
      rw [if_neg (by omega), decide_eq_false (by omega), Int.natAbs_natCast]
    rw [hs]
    have h := fp_rr1 (f := FP.Core.b64) (p := 52) rfl (s := false) (t := t) (j := j) (e := -52) (q := ((1023 - j : Nat) : Int) - 1075) hc1 hc2 (by omega) (by rw [b64_q]; omega) (by rw [b64_x]; omega)
    rw [hx] at h
    show UInt64.ofNat (FP.Core.encode FP.Core.b64 (FP.Core.roundRatio FP.Core.b64 false t 1 (-52))) = _
    rw [h]
    exact dE_enc (by omega) rfl
  · show UInt64.ofNat (FP.Core.encode FP.Core.b64 (FP.Core.round FP.Core.b64 (FP.Core.exactProduct (FP.Core.decode FP.Core.b64 (dE (1023 - j) x).toNat) (FP.Core.decode FP.Core.b64 (4841369599423283200 : UInt64).toNat)))) = _
    rw [dE_dec (by omega) (by omega) hx2, dM_dec]
    have h := fp_rr (f := FP.Core.b64) (p := 52) rfl (s := false) (c := 4503599627370496 + x) (a := 52) (b := 0) (e := ((1023 - j : Nat) : Int) - 1075 + 0) (q := ((1075 - j : Nat) : Int) - 1075) (by omega) (by omega) (by omega) (by rw [b64_q]; omega) (by rw [b64_x]; omega)
    rw [show (2 : Nat) ^ 52 = 4503599627370496 by decide, Nat.pow_zero] at h
    have hq : FP.Core.round FP.Core.b64 (FP.Core.exactProduct (.fin false (4503599627370496 + x) (((1023 - j : Nat) : Int) - 1075)) (.fin false 4503599627370496 0)) = .fin false (4503599627370496 + x) (((1075 - j : Nat) : Int) - 1075) := h
    rw [hq]
    exact dE_enc (by omega) rfl
  · show FP.Core.toL (FP.Core.decode FP.Core.b64 (dE (1075 - j) x).toNat) = _
    rw [dE_dec (by omega) (by omega) hx2]
    unfold FP.Core.toL FP.Core.toInt FP.Core.truncate
    simp only []
    rw [show (((1075 - j : Nat) : Int) - 1075).toNat = 0 by omega, show (-(((1075 - j : Nat) : Int) - 1075)).toNat = j by omega, Nat.pow_zero, Nat.mul_one, ← hx, Nat.mul_div_cancel _ (Nat.two_pow_pos j)]
    have : (max (-2 ^ 63) (min (2 ^ 63 - 1) (FP.Core.signed false t)) : Int) = (t : Int) := by
      show (max (-2 ^ 63) (min (2 ^ 63 - 1) (t : Int)) : Int) = (t : Int)
      omega
    rw [this]
    exact Int64.ofInt_eq_ofNat
