/-! the model's looks ahead -/
theorem trc_nn (R : Nat → Int32) (i : Nat) : trc R i = 0 ∨ trc R i = 1 := by
  unfold trc
  split
  · exact Or.inr rfl
  · split
    · exact Or.inl rfl
    · exact Or.inr rfl
theorem tkn_nn (R : Nat → Int32) : 0 ≤ tkn R := by
  show 0 ≤ trm (tD R) 3
  rw [trm, trm, trm, trm]
  rcases trc_nn (trs (tD R) 0) 0 with a | a <;> rcases trc_nn (trs (tD R) 1) 1 with b | b <;> rcases trc_nn (trs (tD R) 2) 2 with c | c <;> rw [a, b, c] <;> decide
theorem ngo_s {R : Nat → Int32} {k m : Nat} {x : Int32} (h : x = if (0 : Int32) = 0 then ngo R k (m + 1) else nI k) : x = if tkn (pt R k) = 0 then ngo R (k + 1) m else nI (k + 1) := by
  rw [if_pos rfl] at h
  rw [h]
  show (if tkn (pt R k) ≤ 0 then ngo R (k + 1) m else nI (k + 1)) = _
  by_cases q : tkn (pt R k) = 0
  · rw [if_pos q, if_pos (by rw [q]; decide)]
  · rw [if_neg q, if_neg (fun q2 => q (Int32.le_antisymm q2 (tkn_nn _)))]
theorem tk_at {R : Nat → Int32} {j : Nat} (hj : j < 3) : tk R (11 + 10 * j) = R (11 + 10 * j) := by
  have h1 : ∀ (Q : Nat → Int32) i, tr1 Q i (11 + 10 * j) = Q (11 + 10 * j) := fun Q i => by
    unfold tr1
    split
    · exact trd_at (by omega)
    · split
      · rfl
      · exact trd_at (by omega)
  have h2 : shd (tbs R 3) (11 + 10 * j) = tbs R 3 (11 + 10 * j) := by
    unfold shd
    split
    · rfl
    · unfold sh1
      rw [upd_ne (by omega), upd_ne (by omega), upd_ne (by omega)]
  have h3 : tbs R 3 (11 + 10 * j) = R (11 + 10 * j) := by
    show dtk (dtk (dtk (tA R) 0 _ _) 1 _ _) 2 _ _ (11 + 10 * j) = _
    rw [dtk_ak (by omega), dtk_ak (by omega), dtk_ak (by omega)]
    exact upd_ne (by omega)
  have h4 : tC R (11 + 10 * j) = R (11 + 10 * j) := by
    unfold tC
    split
    · exact h3
    · rw [h2, h3]
  unfold tk
  rw [upd_ne (by omega)]
  show tr1 (tr1 (tr1 (tD R) 0) 1) 2 (11 + 10 * j) = _
  rw [h1, h1, h1]
  unfold tD
  rw [upd_ne (by omega), h4]
theorem pt_at {R : Nat → Int32} {j : Nat} (hj : j < 3) : ∀ i, pt R i (11 + 10 * j) = R (11 + 10 * j) := by
  intro i
  induction i with
  | zero => rfl
  | succ i ih =>
    show tk (pt R i) (11 + 10 * j) = _
    rw [tk_at hj, ih]
theorem cgo_0 {R : Nat → Int32} {j : Nat} (hj : j < 3) (h : R (11 + 10 * j) = 0) : ∀ m i, cgo R j i m = -1 := by
  intro m
  induction m with
  | zero => intro i; rfl
  | succ m ih =>
    intro i
    rw [cgo, if_neg, ih]
    rw [rsn, if_pos (by rw [pt_at hj, h])]
    decide
theorem cin_m {R : Nat → Int32} {j : Nat} (hj : j < 3) : cin R j = cgo R j 0 501 := by
  unfold cin
  split
  · rename_i h
    rw [cgo_0 hj h]
  · rfl
theorem rsn_nn (R : Nat → Int32) (j : Nat) : 0 ≤ rsn R j := by
  unfold rsn
  repeat' split
  all_goals decide
theorem tif_1 {R : Nat → Int32} {j : Nat} {x : Int32} : tif R j x 1 = pw (usp R j x) j (fq (usp R j x)) := by simp [tif]
theorem nI_13 {i : Nat} (h : i < 13) : nI i = 0 ∨ nI i = 1 ∨ nI i = 2 ∨ nI i = 3 ∨ nI i = 4 ∨ nI i = 5 ∨ nI i = 6 ∨ nI i = 7 ∨ nI i = 8 ∨ nI i = 9 ∨ nI i = 10 ∨ nI i = 11 ∨ nI i = 12 := by
  revert i
  decide
theorem nI_12 {i : Nat} (h : i < 12) : nI i = 0 ∨ nI i = 1 ∨ nI i = 2 ∨ nI i = 3 ∨ nI i = 4 ∨ nI i = 5 ∨ nI i = 6 ∨ nI i = 7 ∨ nI i = 8 ∨ nI i = 9 ∨ nI i = 10 ∨ nI i = 11 := by
  revert i
  decide
