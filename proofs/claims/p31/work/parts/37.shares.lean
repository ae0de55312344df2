/-! both shares; ticks and energy -/
theorem fp_near {n d m : Nat} (hd : 0 < d) (h1 : m * d ≤ n) (h2 : n < 2 * m * d) : m ≤ FP.Core.nearest n d ∧ FP.Core.nearest n d ≤ 2 * m := by
  have a : m ≤ n / d := (Nat.le_div_iff_mul_le hd).mpr h1
  have b : n / d < 2 * m := (Nat.div_lt_iff_lt_mul hd).mpr h2
  unfold FP.Core.nearest
  generalize n / d = w at a b ⊢
  have c : w % 2 < 2 := Nat.mod_lt _ (by decide)
  split
  · exact ⟨a, by omega⟩
  · split
    · exact ⟨by omega, by omega⟩
    · exact ⟨by omega, by omega⟩
theorem fp_set {f : FP.Core.Fmt} {P c : Nat} {q : Int} (hp : f.p = P + 1) (h1 : 2 ^ P ≤ c) (h2 : c ≤ 2 * 2 ^ P) (hq : q + 1 ≤ f.qmax) : ∃ (c' : Nat) (q' : Int), FP.Core.settle f false c q = .fin false c' q' ∧ 2 ^ P ≤ c' ∧ c' < 2 ^ (P + 1) ∧ q ≤ q' ∧ q' ≤ q + 1 := by
  unfold FP.Core.settle
  by_cases h : c < 2 ^ f.p
  · rw [if_pos h]
    rw [hp] at h
    exact ⟨c, q, by rw [FP.Core.bound, if_pos (by omega)], h1, h, by omega, by omega⟩
  · rw [if_neg h]
    have e : f.tails = 2 ^ P := by
      show 2 ^ (f.p - 1) = _
      rw [hp, Nat.add_sub_cancel]
    refine ⟨f.tails, q + 1, by rw [FP.Core.bound, if_pos hq], ?_, ?_, by omega, by omega⟩
    · rw [e]; exact Nat.le_refl _
    · rw [e]; exact Nat.pow_lt_pow_right (by decide) (by omega)
theorem fp_qt {f : FP.Core.Fmt} {P c d : Nat} {e : Int} (hp : f.p = P + 1) (c1 : 2 ^ P ≤ c) (c2 : c < 2 ^ (P + 1)) (d1 : 2 ^ P ≤ d) (d2 : d < 2 ^ (P + 1)) (hq1 : f.qmin + 1 ≤ e - P) (hq2 : e - P + 1 ≤ f.qmax) : ∃ (c' : Nat) (q' : Int), FP.Core.roundRatio f false c d e = .fin false c' q' ∧ 2 ^ P ≤ c' ∧ c' < 2 ^ (P + 1) ∧ e - P - 1 ≤ q' ∧ q' ≤ e - P + 1 := by
  have hP := Nat.two_pow_pos P
  have hc0 : c ≠ 0 := by omega
  have lc : c.log2 = P := (Nat.log2_eq_iff hc0).mpr ⟨c1, c2⟩
  have ld' : d.log2 = P := (Nat.log2_eq_iff (by omega)).mpr ⟨d1, d2⟩
  have c2' : c < 2 * 2 ^ P := by rw [Nat.pow_succ, Nat.mul_comm] at c2; exact c2
  have d2' : d < 2 * 2 ^ P := by rw [Nat.pow_succ, Nat.mul_comm] at d2; exact d2
  unfold FP.Core.roundRatio
  rw [if_neg hc0]
  by_cases h : d ≤ c
  · have hl : FP.Core.leading c d = 0 := by
      unfold FP.Core.leading
      simp only [lc, ld', Int.sub_self]
      rw [if_pos (by simpa using h)]
    have hqq : FP.Core.quantum f c d e = e - P := by
      unfold FP.Core.quantum
      rw [hl, hp]; omega
    rw [hqq]
    unfold FP.Core.roundAt FP.Core.unitsNum FP.Core.unitsDen
    rw [show (e - (e - (P : Int))).toNat = P by omega, show (e - (P : Int) - e).toNat = 0 by omega, Nat.pow_zero, Nat.mul_one]
    have n := fp_near (n := c * 2 ^ P) (d := d) (m := 2 ^ P) (by omega) (by rw [Nat.mul_comm]; exact Nat.mul_le_mul_right _ h)
      (calc c * 2 ^ P < (2 * d) * 2 ^ P := Nat.mul_lt_mul_of_pos_right (by omega) hP
        _ = 2 * 2 ^ P * d := by ac_rfl)
    obtain ⟨c', q', e1, e2, e3, e4, e5⟩ := fp_set (q := e - P) hp n.1 n.2 hq2
    exact ⟨c', q', e1, e2, e3, by omega, by omega⟩
  · have hl : FP.Core.leading c d = -1 := by
      unfold FP.Core.leading
      simp only [lc, ld', Int.sub_self]
      rw [if_neg (by simpa using h)]; rfl
    have hqq : FP.Core.quantum f c d e = e - P - 1 := by
      unfold FP.Core.quantum
      rw [hl, hp]; omega
    rw [hqq]
    unfold FP.Core.roundAt FP.Core.unitsNum FP.Core.unitsDen
    rw [show (e - (e - (P : Int) - 1)).toNat = P + 1 by omega, show (e - (P : Int) - 1 - e).toNat = 0 by omega, Nat.pow_zero, Nat.mul_one]
    have n := fp_near (n := c * 2 ^ (P + 1)) (d := d) (m := 2 ^ P) (by omega)
      (calc 2 ^ P * d ≤ 2 ^ P * (2 * c) := Nat.mul_le_mul_left _ (by omega)
        _ = c * 2 ^ (P + 1) := by rw [Nat.pow_succ]; ac_rfl)
      (calc c * 2 ^ (P + 1) < d * 2 ^ (P + 1) := Nat.mul_lt_mul_of_pos_right (by omega) (Nat.two_pow_pos _)
        _ = 2 * 2 ^ P * d := by rw [Nat.pow_succ]; ac_rfl)
    obtain ⟨c', q', e1, e2, e3, e4, e5⟩ := fp_set (q := e - P - 1) hp n.1 n.2 (by omega)
    exact ⟨c', q', e1, e2, e3, by omega, by omega⟩
theorem fp_big {f : FP.Core.Fmt} {P n : Nat} (hp : f.p = P + 1) (h0 : n ≠ 0) (hL : P ≤ n.log2) (hq1 : f.qmin ≤ 0) (hq2 : ((n.log2 - P : Nat) : Int) + 1 ≤ f.qmax) : ∃ (c' : Nat) (q' : Int), FP.Core.roundRatio f false n 1 0 = .fin false c' q' ∧ 2 ^ P ≤ c' ∧ c' < 2 ^ (P + 1) ∧ 0 ≤ q' ∧ q' ≤ ((n.log2 - P : Nat) : Int) + 1 := by
  have hle : FP.Core.leading n 1 = (n.log2 : Int) := by
    have h := fp_leading (c := n) (a := 0) (b := 0) (p := n.log2) (Nat.log2_self_le h0) Nat.lt_log2_self
    rw [Nat.pow_zero, Nat.mul_one] at h
    rw [h]; omega
  have hqq : FP.Core.quantum f n 1 0 = ((n.log2 - P : Nat) : Int) := by
    unfold FP.Core.quantum
    rw [hle, hp]; omega
  have lo := Nat.log2_self_le h0
  have hi : n < 2 ^ (n.log2 + 1) := Nat.lt_log2_self
  unfold FP.Core.roundRatio
  rw [if_neg h0, hqq]
  unfold FP.Core.roundAt FP.Core.unitsNum FP.Core.unitsDen
  rw [show (0 - ((n.log2 - P : Nat) : Int)).toNat = 0 by omega, show (((n.log2 - P : Nat) : Int) - 0).toNat = n.log2 - P by omega, Nat.pow_zero, Nat.mul_one, Nat.one_mul]
  have n' := fp_near (n := n) (d := 2 ^ (n.log2 - P)) (m := 2 ^ P) (Nat.two_pow_pos _) (by rw [← Nat.pow_add, show P + (n.log2 - P) = n.log2 by omega]; exact lo)
    (by rw [Nat.mul_assoc, ← Nat.pow_add, show P + (n.log2 - P) = n.log2 by omega, Nat.mul_comm, ← Nat.pow_succ]; exact hi)
  obtain ⟨c', q', e1, e2, e3, e4, e5⟩ := fp_set (q := ((n.log2 - P : Nat) : Int)) hp n'.1 n'.2 hq2
  exact ⟨c', q', e1, e2, e3, by omega, by omega⟩
theorem log2_31 {n : Nat} (h0 : n ≠ 0) (h : n < 2 ^ 31) : n.log2 ≤ 30 := by
  have := (Nat.log2_lt h0).mpr h
  omega
theorem i2d_nI {n : Nat} (h0 : n ≠ 0) (h : n < 2 ^ 31) : ∃ e t, 1023 ≤ e ∧ e ≤ 1053 ∧ t < 4503599627370496 ∧ FP.i2d (nI n) = dE e t := by
  have hL := log2_31 h0 h
  obtain ⟨j, hj⟩ : ∃ j, n.log2 + j = 52 := ⟨52 - n.log2, by omega⟩
  have hc1 : 2 ^ 52 ≤ n * 2 ^ j := by
    rw [← hj, Nat.pow_add]; exact Nat.mul_le_mul_right _ (Nat.log2_self_le h0)
  have hc2 : n * 2 ^ j < 2 ^ 53 := by
    rw [show 53 = (n.log2 + 1) + j by omega, Nat.pow_add]; exact Nat.mul_lt_mul_of_pos_right Nat.lt_log2_self (Nat.two_pow_pos j)
  obtain ⟨x, hx⟩ : ∃ x, n * 2 ^ j = 4503599627370496 + x := ⟨n * 2 ^ j - 4503599627370496, by omega⟩
  refine ⟨1075 - j, x, by omega, by omega, by omega, ?_⟩
  have h9 := fp_rr1 (f := FP.Core.b64) (p := 52) rfl (s := false) (t := n) (j := j) (e := 0) (q := ((1075 - j : Nat) : Int) - 1075) hc1 hc2 (by omega) (by rw [b64_q]; omega) (by rw [b64_x]; omega)
  show UInt64.ofNat (FP.Core.encode FP.Core.b64 (FP.Core.round FP.Core.b64 (FP.Core.ofInt (nI n).toInt))) = _
  rw [nI_toInt h]
  have e0 : FP.Core.ofInt (n : Int) = .fin false n 0 := by
    show FP.Core.Datum.fin (decide ((n : Int) < 0)) (n : Int).natAbs 0 = _
    rw [decide_eq_false (by omega), Int.natAbs_natCast]
  rw [e0]
  show UInt64.ofNat (FP.Core.encode FP.Core.b64 (FP.Core.roundRatio FP.Core.b64 false n 1 0)) = _
  rw [h9, hx]
  exact dE_enc (by omega) rfl
theorem ddiv_dE {e1 t1 e2 t2 : Nat} (a1 : 1023 ≤ e1) (a2 : e1 ≤ 1053) (ha : t1 < 4503599627370496) (b1 : 1023 ≤ e2) (b2 : e2 ≤ 1053) (hb : t2 < 4503599627370496) : ∃ e t, 1 ≤ e ∧ e < 2047 ∧ t < 4503599627370496 ∧ FP.ddiv (dE e1 t1) (dE e2 t2) = dE e t := by
  obtain ⟨c, q, h1, h2, h3, h4, h5⟩ := fp_qt (f := FP.Core.b64) (P := 52) (c := 4503599627370496 + t1) (d := 4503599627370496 + t2) (e := (e1 : Int) - 1075 - ((e2 : Int) - 1075)) rfl (by omega) (by omega) (by omega) (by omega) (by rw [b64_q]; omega) (by rw [b64_x]; omega)
  refine ⟨(q + 1075).toNat, c - 4503599627370496, by omega, by omega, by omega, ?_⟩
  show UInt64.ofNat (FP.Core.encode FP.Core.b64 (FP.Core.quotient FP.Core.b64 (FP.Core.decode FP.Core.b64 (dE e1 t1).toNat) (FP.Core.decode FP.Core.b64 (dE e2 t2).toNat))) = _
  rw [dE_dec (by omega) (by omega) ha, dE_dec (by omega) (by omega) hb]
  have hq : FP.Core.quotient FP.Core.b64 (.fin false (4503599627370496 + t1) ((e1 : Int) - 1075)) (.fin false (4503599627370496 + t2) ((e2 : Int) - 1075)) = .fin false (4503599627370496 + (c - 4503599627370496)) q := by
    unfold FP.Core.quotient
    simp only []
    rw [if_neg (by omega), show 4503599627370496 + (c - 4503599627370496) = c by omega]
    exact h1
  rw [hq]
  exact dE_enc (by omega) (by omega)
theorem ddiv_0 {e t : Nat} (a1 : 1023 ≤ e) (a2 : e ≤ 1053) (ht : t < 4503599627370496) : FP.ddiv (FP.i2d (nI 0)) (dE e t) = FP.dconst0 := by
  show UInt64.ofNat (FP.Core.encode FP.Core.b64 (FP.Core.quotient FP.Core.b64 (FP.Core.decode FP.Core.b64 (FP.i2d (nI 0)).toNat) (FP.Core.decode FP.Core.b64 (dE e t).toNat))) = _
  rw [dE_dec (by omega) (by omega) ht, show FP.Core.decode FP.Core.b64 (FP.i2d (nI 0)).toNat = .fin false 0 (-1074) by decide +kernel]
  have hq : FP.Core.quotient FP.Core.b64 (.fin false 0 (-1074)) (.fin false (4503599627370496 + t) ((e : Int) - 1075)) = .fin false 0 FP.Core.b64.qmin := by
    unfold FP.Core.quotient
    simp only []
    rw [if_neg (by omega)]
    unfold FP.Core.roundRatio
    rw [if_pos rfl]; rfl
  rw [hq]
  decide +kernel
theorem i2f_nI {n : Nat} (h0 : n ≠ 0) (h : n < 2 ^ 31) : ∃ e t, 127 ≤ e ∧ e ≤ 158 ∧ t < 8388608 ∧ FP.i2f (nI n) = fE e t := by
  have hL := log2_31 h0 h
  have goal : ∃ (c : Nat) (q : Int), FP.Core.roundRatio FP.Core.b32 false n 1 0 = .fin false c q ∧ 2 ^ 23 ≤ c ∧ c < 2 ^ 24 ∧ -23 ≤ q ∧ q ≤ 8 := by
    rcases Nat.lt_or_ge n.log2 23 with hl | hl
    · obtain ⟨j, hj⟩ : ∃ j, n.log2 + j = 23 := ⟨23 - n.log2, by omega⟩
      have hc1 : 2 ^ 23 ≤ n * 2 ^ j := by
        rw [← hj, Nat.pow_add]; exact Nat.mul_le_mul_right _ (Nat.log2_self_le h0)
      have hc2 : n * 2 ^ j < 2 ^ 24 := by
        rw [show 24 = (n.log2 + 1) + j by omega, Nat.pow_add]; exact Nat.mul_lt_mul_of_pos_right Nat.lt_log2_self (Nat.two_pow_pos j)
      exact ⟨n * 2 ^ j, 0 - j, fp_rr1 (f := FP.Core.b32) (p := 23) rfl (s := false) (t := n) (j := j) (e := 0) hc1 hc2 rfl (by rw [b32_q]; omega) (by rw [b32_x]; omega), hc1, hc2, by omega, by omega⟩
    · obtain ⟨c, q, h1, h2, h3, h4, h5⟩ := fp_big (f := FP.Core.b32) (P := 23) rfl h0 hl (by rw [b32_q]; omega) (by rw [b32_x]; omega)
      exact ⟨c, q, h1, h2, h3, by omega, by omega⟩
  obtain ⟨c, q, h1, h2, h3, h4, h5⟩ := goal
  refine ⟨(q + 150).toNat, c - 8388608, by omega, by omega, by omega, ?_⟩
  show UInt32.ofNat (FP.Core.encode FP.Core.b32 (FP.Core.round FP.Core.b32 (FP.Core.ofInt (nI n).toInt))) = _
  rw [nI_toInt h]
  have e0 : FP.Core.ofInt (n : Int) = .fin false n 0 := by
    show FP.Core.Datum.fin (decide ((n : Int) < 0)) (n : Int).natAbs 0 = _
    rw [decide_eq_false (by omega), Int.natAbs_natCast]
  rw [e0]
  show UInt32.ofNat (FP.Core.encode FP.Core.b32 (FP.Core.roundRatio FP.Core.b32 false n 1 0)) = _
  rw [h1, show c = 8388608 + (c - 8388608) by omega, Nat.add_sub_cancel_left]
  exact fE_enc (by omega) (by omega)
theorem fdiv_fE {e1 t1 e2 t2 : Nat} (a1 : 127 ≤ e1) (a2 : e1 ≤ 158) (ha : t1 < 8388608) (b1 : 127 ≤ e2) (b2 : e2 ≤ 158) (hb : t2 < 8388608) : ∃ e t, 1 ≤ e ∧ e < 255 ∧ t < 8388608 ∧ FP.fdiv (fE e1 t1) (fE e2 t2) = fE e t := by
  obtain ⟨c, q, h1, h2, h3, h4, h5⟩ := fp_qt (f := FP.Core.b32) (P := 23) (c := 8388608 + t1) (d := 8388608 + t2) (e := (e1 : Int) - 150 - ((e2 : Int) - 150)) rfl (by omega) (by omega) (by omega) (by omega) (by rw [b32_q]; omega) (by rw [b32_x]; omega)
  refine ⟨(q + 150).toNat, c - 8388608, by omega, by omega, by omega, ?_⟩
  show UInt32.ofNat (FP.Core.encode FP.Core.b32 (FP.Core.quotient FP.Core.b32 (FP.Core.decode FP.Core.b32 (fE e1 t1).toNat) (FP.Core.decode FP.Core.b32 (fE e2 t2).toNat))) = _
  rw [fE_dec (by omega) (by omega) ha, fE_dec (by omega) (by omega) hb]
  have hq : FP.Core.quotient FP.Core.b32 (.fin false (8388608 + t1) ((e1 : Int) - 150)) (.fin false (8388608 + t2) ((e2 : Int) - 150)) = .fin false (8388608 + (c - 8388608)) q := by
    unfold FP.Core.quotient
    simp only []
    rw [if_neg (by omega), show 8388608 + (c - 8388608) = c by omega]
    exact h1
  rw [hq]
  exact fE_enc (by omega) (by omega)
theorem fdiv_0 {e t : Nat} (a1 : 127 ≤ e) (a2 : e ≤ 158) (ht : t < 8388608) : FP.fdiv (FP.i2f (nI 0)) (fE e t) = FP.fconst0 := by
  show UInt32.ofNat (FP.Core.encode FP.Core.b32 (FP.Core.quotient FP.Core.b32 (FP.Core.decode FP.Core.b32 (FP.i2f (nI 0)).toNat) (FP.Core.decode FP.Core.b32 (fE e t).toNat))) = _
  rw [fE_dec (by omega) (by omega) ht, show FP.Core.decode FP.Core.b32 (FP.i2f (nI 0)).toNat = .fin false 0 (-149) by decide +kernel]
  have hq : FP.Core.quotient FP.Core.b32 (.fin false 0 (-149)) (.fin false (8388608 + t) ((e : Int) - 150)) = .fin false 0 FP.Core.b32.qmin := by
    unfold FP.Core.quotient
    simp only []
    rw [if_neg (by omega)]
    unfold FP.Core.roundRatio
    rw [if_pos rfl]; rfl
  rw [hq]
  decide +kernel
theorem rat_nI {R : Nat → Int32} (h : gd R) : ∀ n, n ≤ 3 → ∃ a : Nat, a ≤ 500 * n ∧ rat R n = nI a ∧ ((∃ j, j < n ∧ ¬ R (12 + 10 * j) = 0) → 100 ≤ a) ∧ ((∀ j, j < n → R (12 + 10 * j) = 0) → a = 0) := by
  intro n
  induction n with
  | zero => exact fun _ => ⟨0, by omega, rfl, fun q => by obtain ⟨j, hj, _⟩ := q; omega, fun _ => rfl⟩
  | succ n ih =>
    intro hn
    obtain ⟨a, ha, e, f1, f2⟩ := ih (by omega)
    obtain ⟨b, hb1, hb2, eb⟩ := (h.1 n (by omega)).1
    rw [rat]
    split
    · rename_i q
      refine ⟨a, by omega, e, fun z => ?_, fun z => f2 (fun j hj => z j (by omega))⟩
      obtain ⟨j, hj, hq⟩ := z
      by_cases w : j = n
      · subst w; exact absurd q hq
      · exact f1 ⟨j, by omega, hq⟩
    · rename_i q
      exact ⟨a + b, by omega, by rw [e, eb, nI_add], fun _ => by omega, fun z => absurd (z n (by omega)) q⟩
theorem nI_z {a : Nat} (h : a < 2 ^ 31) : nI a = 0 ↔ a = 0 := nI_eq (b := 0) h (by decide)
theorem rat_0 {R : Nat → Int32} (h : gd R) {j : Nat} (hj : j < 3) (q : ¬ R (12 + 10 * j) = 0) : ¬ rat R 3 = 0 := by
  obtain ⟨a, ha, e, f1, -⟩ := rat_nI h 3 (Nat.le_refl _)
  have := f1 ⟨j, hj, q⟩
  rw [e, nI_z (by omega)]; omega
theorem rat_al {R : Nat → Int32} (h : gd R) : rat R 3 = 0 ↔ alv R = 0 := by
  obtain ⟨a, ha, e, f1, f2⟩ := rat_nI h 3 (Nat.le_refl _)
  rw [e, nI_z (by omega)]
  constructor
  · intro q
    rw [alv, if_pos]
    refine ⟨?_, ?_, ?_⟩
    · exact Classical.byContradiction (fun z => by have := f1 ⟨0, by omega, z⟩; omega)
    · exact Classical.byContradiction (fun z => by have := f1 ⟨1, by omega, z⟩; omega)
    · exact Classical.byContradiction (fun z => by have := f1 ⟨2, by omega, z⟩; omega)
  · intro q
    obtain ⟨a0, a1, a2⟩ := alv_0 q
    refine f2 (fun j hj => ?_)
    match j, hj with
    | 0, _ => exact a0
    | 1, _ => exact a1
    | 2, _ => exact a2
theorem gd_okD {R : Nat → Int32} (h : gd R) : okD (ldsh R) := by
  unfold ldsh
  split
  · exact Or.inl rfl
  rename_i q
  obtain ⟨a, ha, e, -, -⟩ := rat_nI h 3 (Nat.le_refl _)
  obtain ⟨b, hb, eb⟩ := ld_nI h
  rw [e, nI_z (by omega)] at q
  rw [e, eb]
  obtain ⟨e2, t2, c1, c2, c3, c4⟩ := i2d_nI (n := a) q (by omega)
  by_cases z : b = 0
  · rw [z, c4]; exact Or.inl (ddiv_0 c1 c2 c3)
  · obtain ⟨e1, t1, d1, d2, d3, d4⟩ := i2d_nI (n := b) z (by omega)
    rw [c4, d4]
    obtain ⟨e9, t9, g1, g2, g3, g4⟩ := ddiv_dE d1 d2 d3 c1 c2 c3
    exact Or.inr ⟨e9, t9, g1, g2, g3, g4⟩
theorem gd_fd {R : Nat → Int32} (h : gd R) : ¬ rat R 3 = 0 → vf_n64 (FP.ddiv (FP.i2d (ld R)) (FP.i2d (rat R 3))) := fun q => by
  have := okD_n (gd_okD h)
  rw [ldsh, if_neg q] at this
  exact this
/-- ticks and energy -/
def bud (R : Nat → Int32) (c : Nat) : Prop := ∃ t e : Nat, R 4 = nI t ∧ R 7 = nI e ∧ t ≤ c ∧ e ≤ 1200 * t
theorem bud_le {R : Nat → Int32} {c d : Nat} (h : bud R c) (hd : c ≤ d) : bud R d := by
  obtain ⟨t, e, h1, h2, h3, h4⟩ := h
  exact ⟨t, e, h1, h2, by omega, h4⟩
theorem bud_c {R R' : Nat → Int32} {c : Nat} (h : bud R c) (h4 : R' 4 = R 4) (h7 : R' 7 = R 7) : bud R' c := by
  obtain ⟨t, e, h1, h2, h3⟩ := h
  exact ⟨t, e, by rw [h4, h1], by rw [h7, h2], h3⟩
theorem okF_of {R : Nat → Int32} {c : Nat} (h : bud R c) (hc : c < 1000000) : okF (mnpw R) := by
  obtain ⟨t, e, h1, h2, h3, h4⟩ := h
  unfold mnpw
  rw [h1, h2]
  split
  · exact Or.inl rfl
  rename_i q
  rw [nI_z (by omega)] at q
  obtain ⟨e2, t2, c1, c2, c3, c4⟩ := i2f_nI (n := t) q (by omega)
  by_cases z : e = 0
  · rw [z, c4]; exact Or.inl (fdiv_0 c1 c2 c3)
  · obtain ⟨e1, t1, d1, d2, d3, d4⟩ := i2f_nI (n := e) z (by omega)
    rw [c4, d4]
    obtain ⟨e9, t9, g1, g2, g3, g4⟩ := fdiv_fE d1 d2 d3 c1 c2 c3
    exact Or.inr ⟨e9, t9, g1, g2, g3, g4⟩
theorem bud_fd {R : Nat → Int32} {c : Nat} (h : bud R c) (hc : c < 1000000) : ¬ R 4 = 0 → vf_n32 (FP.fdiv (FP.i2f (R 7)) (FP.i2f (R 4))) := fun q => by
  have := okF_n (okF_of h hc)
  rw [mnpw, if_neg q] at this
  exact this
theorem en_nI {R : Nat → Int32} (h : gd R) : ∃ a : Nat, a ≤ 1200 ∧ ld R - lk R (fq R) = nI a := by
  obtain ⟨b, hb, eb⟩ := ld_nI h
  by_cases q : alv R = 0
  · refine ⟨0, by omega, ?_⟩
    rw [lk, tot_0 q, ld, if_pos q]; decide
  · obtain ⟨k, hk, ek, hf⟩ := fq_ex q
    obtain ⟨e1, h1, h2⟩ := tot_int h hk
    have e2 : (ld R - tot R (nI (4700 + k))).toInt = (b : Int) - (tot R (nI (4700 + k))).toInt := by
      rw [Int32.toInt_sub, eb, nI_toInt (by omega), Int.bmod_eq_of_le (by omega) (by omega)]
    rw [ek, lk, mx]
    by_cases z : ld R - tot R (nI (4700 + k)) < 0
    · rw [if_pos z, Int32.sub_zero]
      exact ⟨b, hb, eb⟩
    · rw [if_neg z]
      have z' : 0 ≤ (b : Int) - (tot R (nI (4700 + k))).toInt := by
        rw [Int32.lt_iff_toInt_lt, e2, show (0 : Int32).toInt = 0 by decide] at z
        omega
      have t0 : 0 ≤ (tot R (nI (4700 + k))).toInt := by
        rcases hf with rfl | hf
        · rw [e1]
          have g0 := gv_0 (h.1 0 (by omega)); have g1 := gv_0 (h.1 1 (by omega)); have g2 := gv_0 (h.1 2 (by omega))
          omega
        · simp only [fok, decide_eq_true_eq] at hf
          rw [Int32.le_iff_toInt_le, eb, nI_toInt (by omega)] at hf
          omega
      refine ⟨(tot R (nI (4700 + k))).toInt.toNat, by omega, ?_⟩
      apply Int32.toInt_inj.mp
      rw [nI_toInt (by omega), Int32.toInt_sub, e2, eb, nI_toInt (by omega), Int.bmod_eq_of_le (by omega) (by omega)]
      omega
theorem shd_7 {Q : Nat → Int32} : shd Q 7 = Q 7 := by
  unfold shd
  split
  · rfl
  · rw [upd_ne (by decide), sh1, upd_ne (by omega), upd_ne (by omega)]
theorem tbs_7 {R : Nat → Int32} : ∀ n, tbs R n 7 = R 7 + (ld R - lk R (fq R)) := by
  intro n
  induction n with
  | zero => show tA R 7 = _; exact upd_eq (R := R) (k := 7) (x := R 7 + (ld R - lk R (fq R)))
  | succ n ih =>
    show dtk (tbs R n) n _ _ 7 = _
    rw [dtk_ak (by omega), ih]
theorem tk_4 {R : Nat → Int32} : tk R 4 = R 4 + 1 := by
  rw [tk, upd_ne (by decide), trs_lo (by decide), tD, upd_eq, tC_lo (by decide)]
theorem tk_7 {R : Nat → Int32} : tk R 7 = R 7 + (ld R - lk R (fq R)) := by
  rw [tk, upd_ne (by decide), trs_lo (by decide), tD, upd_ne (by decide), tC]
  split
  · exact tbs_7 3
  · rw [shd_7]; exact tbs_7 3
theorem bud_tk {R : Nat → Int32} {c : Nat} (h : gd R) (hb : bud R c) : bud (tk R) (c + 1) := by
  obtain ⟨t, e, h1, h2, h3, h4⟩ := hb
  obtain ⟨a, ha, ea⟩ := en_nI h
  exact ⟨t + 1, e + a, by rw [tk_4, h1, nI_1], by rw [tk_7, ea, h2, nI_add], by omega, by omega⟩
theorem bud_pt {R : Nat → Int32} {c : Nat} (h : gd R) (hb : bud R c) : ∀ n, bud (pt R n) (c + n) := by
  intro n
  induction n with
  | zero => exact hb
  | succ n ih => exact bud_tk (gd_pt h n) ih

