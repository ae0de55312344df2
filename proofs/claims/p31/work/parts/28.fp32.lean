/-! the same for the 32 bits -/
def fE (e t : Nat) : UInt32 := UInt32.ofNat (e * 8388608 + t)
theorem b32_t : FP.Core.b32.tails = 8388608 := by decide +kernel
theorem b32_e : FP.Core.b32.exps = 256 := by decide +kernel
theorem b32_q : FP.Core.b32.qmin = -149 := by decide +kernel
theorem b32_x : FP.Core.b32.qmax = 104 := by decide +kernel
theorem fE_nat {e t : Nat} (he : e < 256) (ht : t < 8388608) : (fE e t).toNat = e * 8388608 + t := by
  unfold fE
  rw [UInt32.toNat_ofNat']
  omega
theorem fE_dec {e t : Nat} (h1 : 1 ≤ e) (h2 : e < 255) (ht : t < 8388608) : FP.Core.decode FP.Core.b32 (fE e t).toNat = .fin false (8388608 + t) ((e : Int) - 150) := by
  have h := fp_dec (f := FP.Core.b32) (E := e) (t := t) h1 (by rw [b32_e]; omega) (by rw [b32_t]; exact ht)
  rw [b32_t, b32_q] at h
  rw [fE_nat (by omega) ht, h]
  congr 1; omega
theorem fE_enc {e t : Nat} {q : Int} (h1 : 1 ≤ e) (hq : q = (e : Int) - 150) : UInt32.ofNat (FP.Core.encode FP.Core.b32 (.fin false (8388608 + t) q)) = fE e t := by
  have h := fp_enc (f := FP.Core.b32) (E := e) (t := t) (q := q) h1 (by rw [b32_q]; omega)
  rw [b32_t] at h
  rw [h]; rfl
theorem fE_n {e t : Nat} (he : e < 255) (ht : t < 8388608) : vf_n32 (fE e t) := by
  show fE e t &&& 0x7fffffff ≤ 0x7f800000
  rw [UInt32.le_iff_toNat_le, UInt32.toNat_and, fE_nat (by omega) ht, show (0x7fffffff : UInt32).toNat = 2 ^ 31 - 1 by decide, Nat.and_two_pow_sub_one_eq_mod, show (0x7f800000 : UInt32).toNat = 255 * 8388608 by decide]
  omega
theorem f2_dec : FP.Core.decode FP.Core.b32 (FP.fconst2 : UInt32).toNat = .fin false 8388608 (-22) := by decide +kernel
theorem f1_dec : FP.Core.decode FP.Core.b32 (FP.fconst1 : UInt32).toNat = .fin false 8388608 (-23) := by decide +kernel
theorem fM_dec : FP.Core.decode FP.Core.b32 (1258291200 : UInt32).toNat = .fin false 8388608 0 := by decide +kernel
theorem f_half {e t : Nat} (h1 : 2 ≤ e) (h2 : e < 255) (ht : t < 8388608) : FP.fdiv (fE e t) FP.fconst2 = fE (e - 1) t := by
  show UInt32.ofNat (FP.Core.encode FP.Core.b32 (FP.Core.quotient FP.Core.b32 (FP.Core.decode FP.Core.b32 (fE e t).toNat) (FP.Core.decode FP.Core.b32 (FP.fconst2 : UInt32).toNat))) = _
  rw [fE_dec (by omega) h2 ht, f2_dec]
  have h := fp_rr (f := FP.Core.b32) (p := 23) rfl (s := false) (c := 8388608 + t) (a := 0) (b := 23) (e := (e : Int) - 150 - (-22)) (q := ((e - 1 : Nat) : Int) - 150) (by omega) (by omega) (by omega) (by rw [b32_q]; omega) (by rw [b32_x]; omega)
  rw [show (8388608 + t) * 2 ^ 0 = 8388608 + t by omega, show (2 : Nat) ^ 23 = 8388608 by decide] at h
  have hq : FP.Core.quotient FP.Core.b32 (.fin false (8388608 + t) ((e : Int) - 150)) (.fin false 8388608 (-22)) = .fin false (8388608 + t) (((e - 1 : Nat) : Int) - 150) := by
    unfold FP.Core.quotient
    simp only []
    rw [if_neg (by decide)]
    exact h
  rw [hq]
  exact fE_enc (by omega) rfl
theorem f_dbl {e t : Nat} (h1 : 1 ≤ e) (h2 : e < 254) (ht : t < 8388608) : FP.fmul (fE e t) FP.fconst2 = fE (e + 1) t := by
  show UInt32.ofNat (FP.Core.encode FP.Core.b32 (FP.Core.round FP.Core.b32 (FP.Core.exactProduct (FP.Core.decode FP.Core.b32 (fE e t).toNat) (FP.Core.decode FP.Core.b32 (FP.fconst2 : UInt32).toNat)))) = _
  rw [fE_dec (by omega) (by omega) ht, f2_dec]
  have h := fp_rr (f := FP.Core.b32) (p := 23) rfl (s := false) (c := 8388608 + t) (a := 23) (b := 0) (e := (e : Int) - 150 + (-22)) (q := ((e + 1 : Nat) : Int) - 150) (by omega) (by omega) (by omega) (by rw [b32_q]; omega) (by rw [b32_x]; omega)
  rw [show (2 : Nat) ^ 23 = 8388608 by decide, Nat.pow_zero] at h
  have hq : FP.Core.round FP.Core.b32 (FP.Core.exactProduct (.fin false (8388608 + t) ((e : Int) - 150)) (.fin false 8388608 (-22))) = .fin false (8388608 + t) (((e + 1 : Nat) : Int) - 150) := h
  rw [hq]
  exact fE_enc (by omega) rfl
theorem f_lt2 {e t : Nat} {op : CmpOp} (h1 : 1 ≤ e) (h2 : e < 128) (ht : t < 8388608) : Op.cmpValue (FP.fcmp (fE e t) FP.fconst2) op < 0 := by
  have h : FP.fcmp (fE e t) FP.fconst2 = some .lt := by
    show FP.Core.order _ _ = _
    rw [fE_dec h1 (by omega) ht, f2_dec]
    exact fp_lt (p := 23) (by omega) (by omega) (by decide) (by omega)
  rw [h]; cases op <;> decide
theorem f_ge2 {e t : Nat} {op : CmpOp} (h1 : 128 ≤ e) (h2 : e < 255) (ht : t < 8388608) : ¬ Op.cmpValue (FP.fcmp (fE e t) FP.fconst2) op < 0 := by
  have h : FP.fcmp (fE e t) FP.fconst2 = some .eq ∨ FP.fcmp (fE e t) FP.fconst2 = some .gt := by
    show FP.Core.order _ _ = _ ∨ FP.Core.order _ _ = _
    rw [fE_dec (by omega) h2 ht, f2_dec]
    exact fp_nlt (p := 23) (by omega) (by decide) (by omega)
  rcases h with h | h <;> rw [h] <;> cases op <;> decide
theorem f_lt1 {e t : Nat} {op : CmpOp} (h1 : 1 ≤ e) (h2 : e < 127) (ht : t < 8388608) : Op.cmpValue (FP.fcmp (fE e t) FP.fconst1) op < 0 := by
  have h : FP.fcmp (fE e t) FP.fconst1 = some .lt := by
    show FP.Core.order _ _ = _
    rw [fE_dec h1 (by omega) ht, f1_dec]
    exact fp_lt (p := 23) (by omega) (by omega) (by decide) (by omega)
  rw [h]; cases op <;> decide
theorem f_ge1 {e t : Nat} {op : CmpOp} (h1 : 127 ≤ e) (h2 : e < 255) (ht : t < 8388608) : ¬ Op.cmpValue (FP.fcmp (fE e t) FP.fconst1) op < 0 := by
  have h : FP.fcmp (fE e t) FP.fconst1 = some .eq ∨ FP.fcmp (fE e t) FP.fconst1 = some .gt := by
    show FP.Core.order _ _ = _ ∨ FP.Core.order _ _ = _
    rw [fE_dec (by omega) h2 ht, f1_dec]
    exact fp_nlt (p := 23) (by omega) (by decide) (by omega)
  rcases h with h | h <;> rw [h] <;> cases op <;> decide
theorem f_gt0 {e t : Nat} {op : CmpOp} (h1 : 1 ≤ e) (h2 : e < 255) (ht : t < 8388608) : (0 : Int32) < Op.cmpValue (FP.fcmp (fE e t) FP.fconst0) op := by
  have h : FP.fcmp (fE e t) FP.fconst0 = some .gt := by
    show FP.Core.order _ _ = _
    rw [fE_dec h1 h2 ht, show FP.Core.decode FP.Core.b32 (FP.fconst0 : UInt32).toNat = .fin false 0 (-149) by decide +kernel]
    have hx : ¬ (FP.Core.signed false (FP.Core.inUnits (8388608 + t) ((e : Int) - 150) (min ((e : Int) - 150) (-149))) : Int) < FP.Core.signed false (FP.Core.inUnits 0 (-149) (min ((e : Int) - 150) (-149))) ∧ ¬ (FP.Core.signed false (FP.Core.inUnits (8388608 + t) ((e : Int) - 150) (min ((e : Int) - 150) (-149))) : Int) = FP.Core.signed false (FP.Core.inUnits 0 (-149) (min ((e : Int) - 150) (-149))) := by
      show ¬ ((FP.Core.inUnits _ _ _ : Nat) : Int) < ((FP.Core.inUnits _ _ _ : Nat) : Int) ∧ ¬ ((FP.Core.inUnits _ _ _ : Nat) : Int) = ((FP.Core.inUnits _ _ _ : Nat) : Int)
      unfold FP.Core.inUnits
      rw [Nat.zero_mul]
      have : (8388608 + t) * 1 ≤ (8388608 + t) * 2 ^ ((e : Int) - 150 - min ((e : Int) - 150) (-149)).toNat := Nat.mul_le_mul_left _ (Nat.two_pow_pos _)
      omega
    show some (compareOfLessAndEq _ _) = _
    unfold compareOfLessAndEq
    rw [if_neg hx.1, if_neg hx.2]
  rw [h]; cases op <;> decide

theorem f_t0 : FP.fsub (fE 127 0) FP.fconst1 = FP.fconst0 ∧ FP.fmul FP.fconst0 1258291200 = FP.fconst0 ∧ FP.f2i FP.fconst0 = 0 := by decide +kernel
theorem f_frac {t : Nat} (ht : t < 8388608) : ∃ u v, FP.fsub (fE 127 t) FP.fconst1 = u ∧ vf_n32 u ∧ FP.fmul u 1258291200 = v ∧ vf_n32 v ∧ FP.f2i v = Int32.ofNat t := by
  rcases Nat.eq_zero_or_pos t with rfl | h0
  · exact ⟨_, _, f_t0.1, (by unfold vf_n32; decide), f_t0.2.1, (by unfold vf_n32; decide), f_t0.2.2⟩
  have hlt : t.log2 < 23 := (Nat.log2_lt (by omega)).mpr ht
  obtain ⟨j, hj⟩ : ∃ j, t.log2 + j = 23 := ⟨23 - t.log2, by omega⟩
  have hc1 : 2 ^ 23 ≤ t * 2 ^ j := by
    rw [← hj, Nat.pow_add]; exact Nat.mul_le_mul_right _ (Nat.log2_self_le (by omega))
  have hc2 : t * 2 ^ j < 2 ^ 24 := by
    rw [show 24 = (t.log2 + 1) + j by omega, Nat.pow_add]; exact Nat.mul_lt_mul_of_pos_right Nat.lt_log2_self (Nat.two_pow_pos j)
  obtain ⟨x, hx⟩ : ∃ x, t * 2 ^ j = 8388608 + x := ⟨t * 2 ^ j - 8388608, by omega⟩
  have hx2 : x < 8388608 := by omega
  refine ⟨fE (127 - j) x, fE (150 - j) x, ?_, fE_n (by omega) hx2, ?_, fE_n (by omega) hx2, ?_⟩
  · show UInt32.ofNat (FP.Core.encode FP.Core.b32 (FP.Core.round FP.Core.b32 (FP.Core.exactSum (FP.Core.decode FP.Core.b32 (fE 127 t).toNat) (FP.Core.negate (FP.Core.decode FP.Core.b32 (FP.fconst1 : UInt32).toNat))))) = _
    rw [fE_dec (by omega) (by omega) ht, f1_dec]
    have hs : FP.Core.exactSum (.fin false (8388608 + t) (((127 : Nat) : Int) - 150)) (FP.Core.negate (.fin false 8388608 (-23))) = .fin false t (-23) := by
      have hv : FP.Core.sumUnits false (8388608 + t) (((127 : Nat) : Int) - 150) true 8388608 (-23) (-23) = (t : Int) := by
        show (((8388608 + t) * 2 ^ 0 : Nat) : Int) + -(((8388608 * 2 ^ 0 : Nat) : Int)) = _
        omega
      show FP.Core.Datum.fin (FP.Core.sumSign false true (FP.Core.sumUnits false (8388608 + t) (((127 : Nat) : Int) - 150) true 8388608 (-23) (-23))) (FP.Core.sumUnits false (8388608 + t) (((127 : Nat) : Int) - 150) true 8388608 (-23) (-23)).natAbs (-23) = _
      rw [hv]
      unfold FP.Core.sumSign
      rw [if_neg (by omega), decide_eq_false (by omega), Int.natAbs_natCast]
    rw [hs]
    have h := fp_rr1 (f := FP.Core.b32) (p := 23) rfl (s := false) (t := t) (j := j) (e := -23) (q := ((127 - j : Nat) : Int) - 150) hc1 hc2 (by omega) (by rw [b32_q]; omega) (by rw [b32_x]; omega)
    rw [hx] at h
    show UInt32.ofNat (FP.Core.encode FP.Core.b32 (FP.Core.roundRatio FP.Core.b32 false t 1 (-23))) = _
    rw [h]
    exact fE_enc (by omega) rfl
  · show UInt32.ofNat (FP.Core.encode FP.Core.b32 (FP.Core.round FP.Core.b32 (FP.Core.exactProduct (FP.Core.decode FP.Core.b32 (fE (127 - j) x).toNat) (FP.Core.decode FP.Core.b32 (1258291200 : UInt32).toNat)))) = _
    rw [fE_dec (by omega) (by omega) hx2, fM_dec]
    have h := fp_rr (f := FP.Core.b32) (p := 23) rfl (s := false) (c := 8388608 + x) (a := 23) (b := 0) (e := ((127 - j : Nat) : Int) - 150 + 0) (q := ((150 - j : Nat) : Int) - 150) (by omega) (by omega) (by omega) (by rw [b32_q]; omega) (by rw [b32_x]; omega)
    rw [show (2 : Nat) ^ 23 = 8388608 by decide, Nat.pow_zero] at h
    have hq : FP.Core.round FP.Core.b32 (FP.Core.exactProduct (.fin false (8388608 + x) (((127 - j : Nat) : Int) - 150)) (.fin false 8388608 0)) = .fin false (8388608 + x) (((150 - j : Nat) : Int) - 150) := h
    rw [hq]
    exact fE_enc (by omega) rfl
  · show FP.Core.toI (FP.Core.decode FP.Core.b32 (fE (150 - j) x).toNat) = _
    rw [fE_dec (by omega) (by omega) hx2]
    unfold FP.Core.toI FP.Core.toInt FP.Core.truncate
    simp only []
    rw [show (((150 - j : Nat) : Int) - 150).toNat = 0 by omega, show (-(((150 - j : Nat) : Int) - 150)).toNat = j by omega, Nat.pow_zero, Nat.mul_one, ← hx, Nat.mul_div_cancel _ (Nat.two_pow_pos j)]
    have : (max (-2 ^ 31) (min (2 ^ 31 - 1) (FP.Core.signed false t)) : Int) = (t : Int) := by
      show (max (-2 ^ 31) (min (2 ^ 31 - 1) (t : Int)) : Int) = (t : Int)
      omega
    rw [this]
    exact Int32.ofInt_eq_ofNat

theorem f_bits {e t : Nat} (h1 : 1 ≤ e) (h2 : e < 255) (ht : t < 8388608) : (nI e <<< ((23 : Int32) &&& 31)) + Int32.ofNat t = (fE e t).toInt32 := by
  rw [show ((23 : Int32) &&& 31) = 23 by decide]
  have e2 : (nI e <<< (23 : Int32)) = Int32.ofNat (e * 8388608) := by
    apply Int32.toBitVec_inj.mp
    rw [Int32.toBitVec_shiftLeft]
    show (BitVec.ofNat 32 e <<< (23 : BitVec 32).smod 32) = BitVec.ofNat 32 (e * 8388608)
    apply BitVec.eq_of_toNat_eq
    rw [show (23 : BitVec 32).smod 32 = (23 : BitVec 32) by decide, BitVec.shiftLeft_eq', BitVec.toNat_shiftLeft, BitVec.toNat_ofNat, BitVec.toNat_ofNat, Nat.shiftLeft_eq, show (23 : BitVec 32).toNat = 23 by decide, show (2 : Nat) ^ 23 = 8388608 by decide, Nat.mod_eq_of_lt (show e < 2 ^ 32 by omega)]
  rw [e2, ← Int32.ofNat_add]
  rfl
