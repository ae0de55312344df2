/-! the model's saved states -/
theorem mI_sv {n k : Nat} : (50 : Int32) * nI n + nI k = nI (50 * n + k) := by
  show Int32.ofNat 50 * Int32.ofNat n + Int32.ofNat k = Int32.ofNat (50 * n + k)
  rw [← Int32.ofNat_mul, ← Int32.ofNat_add]
theorem nI_50 (k : Nat) : nI k + 50 = nI (k + 50) := by
  show Int32.ofNat k + Int32.ofNat 50 = Int32.ofNat (k + 50)
  rw [← Int32.ofNat_add]
def sft (S : Nat → Int32) (k : Nat) : Nat → Int32 := fun j => if j < k then S (j + 50) else S j
theorem sft_0 {S : Nat → Int32} : sft S 0 = S := by
  funext j
  unfold sft
  rw [if_neg (by omega)]
theorem sft_s {S : Nat → Int32} {k : Nat} : upd (sft S k) k ((sft S k) (k + 50)) = sft S (k + 1) := by
  have e : (sft S k) (k + 50) = S (k + 50) := if_neg (by omega)
  rw [e]
  funext j
  unfold sft
  by_cases q : j = k
  · rw [q, upd_eq, if_pos (by omega)]
  · rw [upd_ne q]
    by_cases q2 : j < k
    · rw [if_pos q2, if_pos (by omega)]
    · rw [if_neg q2, if_neg (by omega)]
/-- R laid from place b on, its first k -/
def ins (S R : Nat → Int32) (b k : Nat) : Nat → Int32 := fun j => if b ≤ j ∧ j < b + k then R (j - b) else S j
theorem ins_0 {S R : Nat → Int32} {b : Nat} : ins S R b 0 = S := by
  funext j
  unfold ins
  rw [if_neg (by omega)]
theorem ins_s {S R : Nat → Int32} {b k : Nat} : upd (ins S R b k) (b + k) (R k) = ins S R b (k + 1) := by
  funext j
  unfold ins
  by_cases q : j = b + k
  · rw [q, upd_eq, if_pos (by omega), show b + k - b = k by omega]
  · rw [upd_ne q]
    by_cases q2 : b ≤ j ∧ j < b + k
    · rw [if_pos q2, if_pos (by omega)]
    · rw [if_neg q2, if_neg (by omega)]
def msv (S R : Nat → Int32) (n : Nat) : Nat → Int32 := if n = 6 then ins (sft S 250) R (50 * 5) 50 else ins S R (50 * n) 50
