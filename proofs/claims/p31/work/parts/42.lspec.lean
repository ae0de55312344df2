/-! the law's numbers are the document's words -/
theorem gv_l {R : Nat → Int32} {j : Nat} {f : Int32} (h : gd R) (hj : j < 3) : R (12 + 10 * j) * ((R (10 + 10 * j) - f) * R (8 + 10 * j) / R (9 + 10 * j)) = gv R j f := by
  rcases (h.1 j hj).2.2.2.2.1 with q | q
  · rw [gv, if_pos q, q, Int32.zero_mul]
  · rw [gv, if_neg (by rw [q]; decide), q, Int32.one_mul]
theorem lsum_l {R : Nat → Int32} {i : Nat} (h : gd R) (hi : i < 4) : lsum R i + R (38 + 3 * i) * R (39 + 3 * i) = lsum R (i + 1) := by
  rw [lsum]
  rcases (h.2.1 i hi).2 with q | q
  · rw [if_pos q, q, Int32.mul_zero, Int32.add_zero]
  · rw [if_neg (by rw [q]; decide), q, Int32.mul_one]
theorem sm3_0 {R : Nat → Int32} (h : bz R) : sm3 R 12 = 0 ↔ alv R = 0 := by
  have h0 := (h.1 0 (by omega)).2; have h1 := (h.1 1 (by omega)).2; have h2 := (h.1 2 (by omega)).2
  unfold sm3 alv
  simp only [Nat.mul_zero, Nat.add_zero, Nat.mul_one, Nat.reduceAdd, Nat.reduceMul] at h0 h1 h2 ⊢
  rcases h0 with h0 | h0 <;> rcases h1 with h1 | h1 <;> rcases h2 with h2 | h2 <;> rw [h0, h1, h2] <;> decide
theorem half2 {a b : Nat} (h : a + b ≤ 1300) : nI (4700 + a + (4700 + b)) / 2 = nI (4700 + (a + b) / 2) := by
  rw [show (2 : Int32) = nI 2 from rfl, pk_div (by omega) (by decide) (by decide)]
  congr 1
  omega
theorem sub47 {a b : Nat} (h : a ≤ b) : nI (4700 + b) - nI (4700 + a) = nI (b - a) := by
  rw [pk_sub (by omega)]
  congr 1
  omega
theorem le_1 {k : Nat} (hk : k < 2 ^ 31) (h : nI k ≤ 1) : k ≤ 1 := by
  rcases Nat.lt_or_ge 1 k with q | q
  · exact absurd h (nI_ge (a := 1) (b := k) q hk)
  · exact q
theorem gt_1 {k : Nat} (h : ¬ nI k ≤ 1) : 2 ≤ k := by
  rcases Nat.lt_or_ge k 2 with q | q
  · exact absurd (nI_le (a := k) (b := 1) (by omega) (by decide)) h
  · exact q
/-! powers -/
theorem lw_ne {R : Nat → Int32} {i : Nat} (hi : i < 3) (h : R (12 + 10 * i) = 0) : ¬ nI i = lw R := by
  match i, hi with
  | 0, _ =>
    have h' : R 12 = 0 := h
    unfold lw
    (repeat' split) <;> first | decide | simp_all
  | 1, _ =>
    have h' : R 22 = 0 := h
    unfold lw
    (repeat' split) <;> first | decide | simp_all
  | 2, _ =>
    have h' : R 32 = 0 := h
    unfold lw
    (repeat' split) <;> first | decide | simp_all
theorem pw_o {R : Nat → Int32} {i : Nat} {f : Int32} (hi : i < 3) (h : R (12 + 10 * i) = 0) : gv R i f = pw R i f := by
  rw [pw, if_neg (lw_ne hi h)]
theorem pw_lo {R : Nat → Int32} {i : Nat} {f : Int32} (e : nI i = lw R) : gv R i f - mx (tot R f - ld R) 0 = pw R i f := by
  rw [pw, if_pos e]
theorem pw_hi {R : Nat → Int32} {i q : Nat} {f : Int32} (hi : i < 3) (hq : q < i) (e : lw R = nI q) : gv R i f = pw R i f := by
  rw [pw, if_neg]
  rw [e]
  intro h
  have := nI_j3 hi (by omega) h
  omega
theorem mx_n {x : Int32} (h : ¬ x ≤ 0) : mx x 0 = x := by
  unfold mx
  rw [if_neg (fun q => h (Int32.le_of_lt q))]
theorem mx_z {x : Int32} (h : x ≤ 0) : mx x 0 = 0 := by
  unfold mx
  split
  · rfl
  · rename_i q
    exact Int32.le_antisymm h (Int32.not_lt.mp q)
theorem gd_low2 {R : Nat → Int32} (h : gd R) : -2147483647 ≤ tot R (fq R) - ld R := by
  by_cases q : alv R = 0
  · rw [tot_0 q, ld, if_pos q]; decide
  · obtain ⟨k, hk, ek, -⟩ := fq_ex q
    obtain ⟨a, ha, ea⟩ := ld_nI h
    obtain ⟨-, h1, h2⟩ := tot_int h hk
    rw [ek, Int32.le_iff_toInt_le, Int32.toInt_sub, ea, nI_toInt (by omega), Int.bmod_eq_of_le (by omega) (by omega), show (-2147483647 : Int32).toInt = -2147483647 by decide]
    omega
theorem lk_n {R : Nat → Int32} (h : gd R) (q : tot R (fq R) - ld R < 0) : -(tot R (fq R) - ld R) = lk R (fq R) := by
  rw [lk, mx_lt (gd_low2 h) q]
theorem lk_p {R : Nat → Int32} (q : 0 ≤ tot R (fq R) - ld R) : (0 : Int32) = lk R (fq R) := by
  rw [lk, mx_ge q]
theorem pw_end {R P : Nat → Int32} {x : Int32} (h : ∀ q, q < 3 → P q = pw R q (fq R)) (hx : x = lk R (fq R)) : ∀ k, k < 4 → upd P 3 x k = pwv R k := by
  intro k hk
  by_cases e : k = 3
  · rw [e, upd_eq, pwv_3, hx]
  · rw [upd_ne e, pwv_i (by omega), h k (by omega)]
theorem pw_s {R P : Nat → Int32} {i : Nat} {x : Int32} (h : ∀ q, q < i → P q = pw R q (fq R)) (hx : x = pw R i (fq R)) : ∀ q, q < i + 1 → upd P i x q = pw R q (fq R) := by
  intro q hq
  by_cases e : q = i
  · rw [e, upd_eq, hx]
  · rw [upd_ne e, h q (by omega)]
theorem pw_s2 {R P : Nat → Int32} {i : Nat} {x y : Int32} (h : ∀ q, q < i → P q = pw R q (fq R)) (hx : (upd P i y) i - x = pw R i (fq R)) : ∀ q, q < i + 1 → upd (upd P i y) i ((upd P i y) i - x) q = pw R q (fq R) := by
  intro q hq
  by_cases e : q = i
  · rw [e, upd_eq, hx]
  · rw [upd_ne e, upd_ne e, h q (by omega)]
theorem ab_n {x : Int32} (h : 0 ≤ x) : x = ab x := by rw [ab, if_pos h]
theorem ab_m {x : Int32} (h : ¬ 0 ≤ x) : -x = ab x := by rw [ab, if_neg h, Int32.zero_sub]
/-! why a breaker does not close -/
def ph (R : Nat → Int32) : Prop := ∀ i, i < 3 → ∃ a : Nat, a < 1000 ∧ R (13 + 10 * i) = nI a
theorem lmp_l {a : Nat} (h : a < 1000) : lmp (nI a) = lam (nI a) := by
  have e : (1000 : Int32) - nI a = nI (1000 - a) := pk_sub (a := 1000) (b := a) (by omega)
  unfold lmp lam mn
  rw [e]
  by_cases q : 500 < a
  · rw [if_pos (show (500 : Int32) < nI a from nI_lt (a := 500) q (by omega)), if_pos (nI_lt (by omega) (by omega))]
  · rw [if_neg (show ¬ (500 : Int32) < nI a from nI_nlt (a := 500) (by omega) (by decide))]
    by_cases q2 : a = 500
    · subst q2; decide
    · rw [if_neg (nI_nlt (by omega) (by omega))]
theorem al_f0 {R : Nat → Int32} (h : fq R ≤ 0) : alv R = 0 := Classical.byContradiction (fun q => fq_a1 q h)
theorem al_f1 {R : Nat → Int32} (h : ¬ fq R ≤ 0) : ¬ alv R = 0 := fun q => h (fq_a0 q)
theorem rs_0 {R : Nat → Int32} {j : Nat} (h1 : ¬ R (11 + 10 * j) = 0) (h2 : ¬ R (12 + 10 * j) = 1) (hb : bz R) (hj : j < 3) (h3 : fq R ≤ 0) : (0 : Int32) = rsn R j := by
  rw [rsn, if_neg h1, if_neg (not_not_intro ((hb.1 j hj).2.resolve_right h2)), if_pos (al_f0 h3)]
theorem rs_3 {R : Nat → Int32} {j : Nat} (h1 : ¬ R (11 + 10 * j) = 0) (h2 : ¬ R (12 + 10 * j) = 1) (hb : bz R) (hj : j < 3) (h3 : ¬ fq R ≤ 0) (h4 : ¬ ab (R (10 + 10 * j) - fq R) ≤ R 2) : (3 : Int32) = rsn R j := by
  rw [rsn, if_neg h1, if_neg (not_not_intro ((hb.1 j hj).2.resolve_right h2)), if_neg (al_f1 h3), if_neg h4]
theorem rs_4 {R : Nat → Int32} {j : Nat} (h1 : ¬ R (11 + 10 * j) = 0) (h2 : ¬ R (12 + 10 * j) = 1) (hb : bz R) (hj : j < 3) (h3 : ¬ fq R ≤ 0) (h4 : ab (R (10 + 10 * j) - fq R) ≤ R 2) (hp : ph R) (h5 : ¬ lmp (R (13 + 10 * j)) ≤ R 3) : (4 : Int32) = rsn R j := by
  obtain ⟨a, ha, e⟩ := hp j hj
  rw [e, lmp_l ha, ← e] at h5
  rw [rsn, if_neg h1, if_neg (not_not_intro ((hb.1 j hj).2.resolve_right h2)), if_neg (al_f1 h3), if_pos h4, if_neg h5]
theorem rs_00 {R : Nat → Int32} {j : Nat} (h1 : ¬ R (11 + 10 * j) = 0) (h2 : ¬ R (12 + 10 * j) = 1) (hb : bz R) (hj : j < 3) (h3 : ¬ fq R ≤ 0) (h4 : ab (R (10 + 10 * j) - fq R) ≤ R 2) (hp : ph R) (h5 : lmp (R (13 + 10 * j)) ≤ R 3) : (0 : Int32) = rsn R j := by
  obtain ⟨a, ha, e⟩ := hp j hj
  rw [e, lmp_l ha, ← e] at h5
  rw [rsn, if_neg h1, if_neg (not_not_intro ((hb.1 j hj).2.resolve_right h2)), if_neg (al_f1 h3), if_pos h4, if_pos h5]
theorem rs_1 {R : Nat → Int32} {j : Nat} (h1 : R (11 + 10 * j) = 0) : (1 : Int32) = rsn R j := by rw [rsn, if_pos h1]
theorem rs_2 {R : Nat → Int32} {j : Nat} (h1 : ¬ R (11 + 10 * j) = 0) (h2 : R (12 + 10 * j) = 1) : (2 : Int32) = rsn R j := by
  rw [rsn, if_neg h1, if_pos (by rw [h2]; decide)]
/-- a number out of a cell: below n -/
def low (x : Int32) (n : Nat) : Nat := x.toBitVec.toNat % 2 ^ 31 % n
theorem low_lt {x : Int32} {n : Nat} (h : 0 < n) : low x n < n := Nat.mod_lt _ h
theorem low_e {x : Int32} {n : Nat} (h : 0 < n) (hn : n < 2 ^ 31) : (x &&& 2147483647) - (x &&& 2147483647) / nI n * nI n = nI (low x n) := by
  rw [pk_and x 31 (by decide), pk_rem (Nat.mod_lt _ (by decide)) h hn]
  rfl
