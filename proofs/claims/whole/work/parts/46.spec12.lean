/-! the model's looks ahead -/
theorem trc_nn (R : Nat → Int32) (i : Nat) : trc R i = 0 ∨ trc R i = 1 := by
  unfold trc
  split
  · exact Or.inr rfl
  · split
    · exact Or.inl rfl
    · exact Or.inr rfl
theorem tkn_nn (R : Nat → Int32) : 0 ≤ tkn R := by
  show 0 ≤ trm (tD R) 3
  rw [trm, trm, trm, trm]
  rcases trc_nn (trs (tD R) 0) 0 with a | a <;> rcases trc_nn (trs (tD R) 1) 1 with b | b <;> rcases trc_nn (trs (tD R) 2) 2 with c | c <;> rw [a, b, c] <;> decide
theorem ngo_s {R : Nat → Int32} {k m : Nat} {x : Int32} (h : x = if (0 : Int32) = 0 then ngo R k (m + 1) else nI k) : x = if tkn (pt R k) = 0 then ngo R (k + 1) m else nI (k + 1) := by
  rw [if_pos rfl] at h
  rw [h]
  show (if tkn (pt R k) ≤ 0 then ngo R (k + 1) m else nI (k + 1)) = _
  by_cases q : tkn (pt R k) = 0
  · rw [if_pos q, if_pos (by rw [q]; decide)]
  · rw [if_neg q, if_neg (fun q2 => q (Int32.le_antisymm q2 (tkn_nn _)))]
