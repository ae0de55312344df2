/-! sums of places, rows of states -/
theorem nI_2 (a : Nat) : nI a + 2 = nI (a + 2) := by
  rw [show (2 : Int32) = 1 + 1 from rfl, ← Int32.add_assoc, nI_1, nI_1]
theorem nI_3 (a : Nat) : nI a + 3 = nI (a + 3) := by
  rw [show (3 : Int32) = 2 + 1 from rfl, ← Int32.add_assoc, nI_2, nI_1]
theorem svn_le {n : Nat} (h : n ≤ 6) : svn n ≤ 6 := by
  unfold svn
  split <;> omega
