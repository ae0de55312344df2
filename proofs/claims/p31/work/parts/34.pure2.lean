/-! lowest, lack, powers -/
def mq (R : Nat → Int32) (f : Int32) : Nat → Int32
  | 0 => ld R - gv R 2 f - gv R 1 f - gv R 0 f
  | 1 => ld R - gv R 2 f - gv R 1 f
  | 2 => ld R - gv R 2 f
  | _ => ld R
theorem mq_s {R : Nat → Int32} {f : Int32} {k : Nat} (h : k < 3) : mq R f k = mq R f (k + 1) - gv R k f := by
  match k, h with
  | 0, _ => rfl
  | 1, _ => rfl
  | 2, _ => rfl
def lq (R : Nat → Int32) : Nat → Int32
  | 0 => if R 12 = 1 then 0 else if R 22 = 1 then 1 else if R 32 = 1 then 2 else (-1)
  | 1 => if R 22 = 1 then 1 else if R 32 = 1 then 2 else (-1)
  | 2 => if R 32 = 1 then 2 else (-1)
  | _ => (-1)
theorem lq_s {R : Nat → Int32} {k : Nat} (h : k < 3) : lq R k = if R (12 + 10 * k) = 1 then nI k else lq R (k + 1) := by
  match k, h with
  | 0, _ => rfl
  | 1, _ => rfl
  | 2, _ => rfl
theorem mq0 {R : Nat → Int32} {f : Int32} : mq R f 0 = ld R - tot R f := by
  rw [← tot3]
  show ld R - gv R 2 f - gv R 1 f - gv R 0 f = _
  generalize ld R = a; generalize gv R 2 f = b; generalize gv R 1 f = c; generalize gv R 0 f = d
  rw [Int32.sub_eq_add_neg, Int32.sub_eq_add_neg, Int32.sub_eq_add_neg, Int32.sub_eq_add_neg, Int32.neg_add, Int32.neg_add, Int32.sub_eq_add_neg, Int32.sub_eq_add_neg]
  ac_rfl
theorem lq_lw {R : Nat → Int32} (h : bz R) : lq R 0 = lw R := by
  have h0 : R 12 = 0 ∨ R 12 = 1 := (h.1 0 (by omega)).2
  have h1 : R 22 = 0 ∨ R 22 = 1 := (h.1 1 (by omega)).2
  have h2 : R 32 = 0 ∨ R 32 = 1 := (h.1 2 (by omega)).2
  show (if R 12 = 1 then 0 else if R 22 = 1 then 1 else if R 32 = 1 then 2 else (-1)) = _
  unfold lw
  rcases h0 with h0 | h0 <;> rcases h1 with h1 | h1 <;> rcases h2 with h2 | h2 <;> rw [h0, h1, h2] <;> decide
theorem low_ex {R : Nat → Int32} {f : Int32} (h : bz R) (hq : mq R f 0 < 0) : ∃ j, j < 3 ∧ lq R 0 = nI j := by
  have h0 : R 12 = 0 ∨ R 12 = 1 := (h.1 0 (by omega)).2
  have h1 : R 22 = 0 ∨ R 22 = 1 := (h.1 1 (by omega)).2
  have h2 : R 32 = 0 ∨ R 32 = 1 := (h.1 2 (by omega)).2
  show ∃ j, j < 3 ∧ (if R 12 = 1 then (0 : Int32) else if R 22 = 1 then 1 else if R 32 = 1 then 2 else (-1)) = nI j
  rcases h0 with h0 | h0
  · rcases h1 with h1 | h1
    · rcases h2 with h2 | h2
      · exfalso
        have g0 : gv R 0 f = 0 := if_pos h0
        have g1 : gv R 1 f = 0 := if_pos h1
        have g2 : gv R 2 f = 0 := if_pos h2
        have gl : ld R = 0 := if_pos (if_pos ⟨h0, h1, h2⟩)
        have : mq R f 0 = 0 := by
          show ld R - gv R 2 f - gv R 1 f - gv R 0 f = 0
          rw [g0, g1, g2, gl]; decide
        rw [this] at hq
        exact absurd hq (by decide)
      · exact ⟨2, by omega, by rw [h0, h1, h2]; rfl⟩
    · exact ⟨1, by omega, by rw [h0, h1]; rfl⟩
  · exact ⟨0, by omega, by rw [h0]; rfl⟩
theorem i_neg {a : Int32} (h : -2147483647 ≤ a) : (-a).toInt = -a.toInt := by
  have h1 := a.toInt_lt; have h2 := a.le_toInt
  rw [Int32.le_iff_toInt_le, show (-2147483647 : Int32).toInt = -2147483647 by decide] at h
  rw [Int32.toInt_neg, Int.bmod_eq_of_le (by omega) (by omega)]
theorem sw_sub {a b : Int32} : b - a = -(a - b) := by rw [Int32.neg_sub]
theorem mx_ge {a b : Int32} (h : 0 ≤ a - b) : mx (b - a) 0 = 0 := by
  unfold mx
  split
  · rfl
  · rename_i q
    rw [sw_sub] at q ⊢
    have e : (0 : Int32).toInt = 0 := by decide
    have hn : -2147483647 ≤ a - b := Int32.le_trans (by decide) h
    rw [Int32.lt_iff_toInt_lt, i_neg hn] at q
    rw [Int32.le_iff_toInt_le] at h
    apply Int32.toInt_inj.mp
    rw [i_neg hn]
    omega
theorem mx_lt {a b : Int32} (hn : -2147483647 ≤ a - b) (h : a - b < 0) : mx (b - a) 0 = -(a - b) := by
  unfold mx
  rw [sw_sub, if_neg]
  have e : (0 : Int32).toInt = 0 := by decide
  rw [Int32.lt_iff_toInt_lt, i_neg hn]
  rw [Int32.lt_iff_toInt_lt] at h
  omega
theorem pw_ge {R : Nat → Int32} {f : Int32} {i : Nat} (h : 0 ≤ mq R f 0) : gv R i f = pw R i f := by
  rw [mq0] at h
  unfold pw
  rw [mx_ge h, Int32.sub_zero]
  split <;> rfl
theorem nI_j3 {a b : Nat} (ha : a < 3) (hb : b < 3) (h : nI a = nI b) : a = b := by
  have h1 := congrArg Int32.toInt h
  rw [nI_toInt (by omega), nI_toInt (by omega)] at h1
  omega
theorem pw_lt {R : Nat → Int32} {f : Int32} {i j : Nat} (hb : bz R) (hn : -2147483647 ≤ ld R - tot R f) (h : mq R f 0 < 0) (hj : lq R 0 = nI j) (hj3 : j < 3) (hi : i < 3) : (if i = j then gv R i f + mq R f 0 else gv R i f) = pw R i f := by
  rw [mq0] at h ⊢
  rw [lq_lw hb] at hj
  unfold pw
  rw [hj, mx_lt hn h, Int32.sub_neg]
  by_cases q : i = j
  · rw [if_pos q, if_pos (by rw [q])]
  · rw [if_neg q, if_neg (fun e => q (nI_j3 hi hj3 e))]
theorem lk_m {R : Nat → Int32} {f : Int32} : (if mq R f 0 ≤ 0 then 0 else mq R f 0) = lk R f := by
  rw [mq0]
  unfold lk mx
  by_cases q : ld R - tot R f < 0
  · rw [if_pos q, if_pos (Int32.le_of_lt q)]
  · rw [if_neg q]
    split
    · rename_i q2
      exact Int32.le_antisymm (Int32.not_lt.mp q) q2
    · rfl
def pws (R P : Nat → Int32) : Prop := ∀ i, i < 3 → P i = pw R i (fq R)
theorem neg1 {t : Int32} (h : t + 1 = nI 0) : t = -1 := by
  have : t + 1 + (-1) = nI 0 + (-1) := by rw [h]
  rw [Int32.add_assoc, show (1 : Int32) + -1 = 0 by decide, Int32.add_zero] at this
  rw [this]; decide
theorem one_off {t : Int32} {k : Nat} (h : t + 1 = nI (k + 1)) : t = nI k := by
  rw [← nI_1] at h
  have : t + 1 + (-1) = nI k + 1 + (-1) := by rw [h]
  rwa [Int32.add_assoc, Int32.add_assoc, show (1 : Int32) + -1 = 0 by decide, Int32.add_zero, Int32.add_zero] at this
theorem neg1b (x : Int32) : x + (-1) + 1 = x := by
  rw [Int32.add_assoc, show (-1 : Int32) + 1 = 0 by decide, Int32.add_zero]

theorem psum3 {R : Nat → Int32} {f : Int32} : pw R 0 f + pw R 1 f + pw R 2 f = psum R f 3 := by
  rw [psum, psum, psum, psum, Int32.zero_add]
/-- the first k of X, the others of Y -/
def fst6 (X Y : Nat → Int32) (k : Nat) : Nat → Int32 := fun j => if j < k then X j else Y j
theorem fst6_s {X Y : Nat → Int32} {k : Nat} : upd (fst6 X Y k) k (X k) = fst6 X Y (k + 1) := by
  funext j
  unfold fst6
  by_cases q : j = k
  · rw [q, upd_eq, if_pos (by omega)]
  · rw [upd_ne q]
    by_cases q2 : j < k
    · rw [if_pos q2, if_pos (by omega)]
    · rw [if_neg q2, if_neg (by omega)]
theorem fst6_0 {X Y : Nat → Int32} : fst6 X Y 0 = Y := by
  funext j
  unfold fst6
  rw [if_neg (by omega)]
theorem fst6_e {X Y : Nat → Int32} {k j : Nat} (h : j < k) : fst6 X Y k j = X j := if_pos h
theorem sh_x {R : Nat → Int32} {k : Nat} (h : shk R 4 = k + 1) : upd (upd (upd R (39 + 3 * k) 0) (40 + 3 * k) ((upd R (39 + 3 * k) 0) (40 + 3 * k) + 1)) 6 ((upd (upd R (39 + 3 * k) 0) (40 + 3 * k) ((upd R (39 + 3 * k) 0) (40 + 3 * k) + 1)) 6 + 1) = shd R := by
  have e1 : (upd R (39 + 3 * k) 0) (40 + 3 * k) = R (40 + 3 * k) := upd_ne (by omega)
  have e2 : (upd (upd R (39 + 3 * k) 0) (40 + 3 * k) ((upd R (39 + 3 * k) 0) (40 + 3 * k) + 1)) 6 = R 6 := by rw [upd_ne (by omega), upd_ne (by omega)]
  rw [e2, e1, shd, if_neg (by omega), h]
  rfl
theorem sh_0 {R : Nat → Int32} (h : shk R 4 = 0) : shd R = R := by rw [shd, if_pos h]
theorem rat_s {R : Nat → Int32} {i : Nat} (h : bz R) (hi : i < 3) : rat R i + R (12 + 10 * i) * R (8 + 10 * i) = rat R (i + 1) := by
  rw [rat]
  rcases (h.1 i hi).2 with q | q
  · rw [if_pos q, q, Int32.zero_mul, Int32.add_zero]
  · rw [if_neg (by rw [q]; decide), q, Int32.one_mul]
theorem shk_y {R : Nat → Int32} {i : Nat} (h : R (39 + 3 * i) = 1) (h2 : ¬ R (38 + 3 * i) ≤ 0) : shk R (i + 1) = i + 1 := by
  rw [shk, if_neg (by rw [h]; decide), if_neg h2]
theorem shk_n1 {R : Nat → Int32} {i : Nat} (hb : bz R) (hi : i < 4) (h : ¬ R (39 + 3 * i) = 1) : shk R (i + 1) = shk R i := by
  rw [shk, if_pos ((hb.2 i hi).resolve_right h)]
theorem shk_n2 {R : Nat → Int32} {i : Nat} (h : R (38 + 3 * i) ≤ 0) : shk R (i + 1) = shk R i := by
  rw [shk]
  by_cases q : R (39 + 3 * i) = 0
  · rw [if_pos q]
  · rw [if_neg q, if_pos h]
theorem sh_no {k : Nat} (h : nI k = 0) (hk : k ≤ 4 := by exact shk_le _ 4) : k = 0 := (nI_eq (by omega) (by decide)).mp h

