/-! the orders -/
theorem nI_2 (a : Nat) : nI a + 2 = nI (a + 2) := by
  rw [show (2 : Int32) = 1 + 1 from rfl, ← Int32.add_assoc, nI_1, nI_1]
theorem nI_3 (a : Nat) : nI a + 3 = nI (a + 3) := by
  rw [show (3 : Int32) = 2 + 1 from rfl, ← Int32.add_assoc, nI_2, nI_1]
def swf (R : Nat → Int32) (i q : Int32) : Int32 × (Nat → Int32) := if nF i 0 = 0 then (1, upd R (39 + 3 * ix i) q) else (0, R)
def cmd (R : Nat → Int32) (c : Int32) (j : Nat) : Int32 × (Nat → Int32) :=
  if c = 99 then (if rsn R j = 0 then (1, rst (upd R (12 + 10 * j) 1) j) else (0, R))
  else if c = 104 then (if R (11 + 10 * j) = 0 then (0, R) else if R (12 + 10 * j) = 0 then (1, rst (upd R (11 + 10 * j) 0) j) else (0, R))
  else if c = 114 then (if R (11 + 10 * j) = 0 then (1, rst (upd R (11 + 10 * j) 1) j) else (0, R))
  else if R (12 + 10 * j) = 0 then (0, R) else (1, rst (upd R (12 + 10 * j) 0) j)
theorem swf_01 (R : Nat → Int32) (i q : Int32) : (swf R i q).1 = 0 ∨ (swf R i q).1 = 1 := by
  unfold swf
  split
  · exact Or.inr rfl
  · exact Or.inl rfl
theorem cmd_01 (R : Nat → Int32) (c : Int32) (j : Nat) : (cmd R c j).1 = 0 ∨ (cmd R c j).1 = 1 := by
  unfold cmd
  repeat' split
  all_goals first | exact Or.inl rfl | exact Or.inr rfl
/-- the part of the text from a to e, carried out -/
def car (R F : Nat → Int32) (len a e : Nat) : Int32 × (Nat → Int32) :=
  if cod F len a = 116 then (1, pt R (ix (nmb F len (a + 1) (e - (a + 1)))))
  else if cod F len a = 102 then swf R (nmb F len (a + 1) 1) (if cod F len (a + 2) = 43 then 1 else 0)
  else if nS (nmb F len (a + 1) 1) 0 = 0 then (if cod F len a = 115 then (1, usp R (ix (nmb F len (a + 1) 1)) (nmb F len (a + 3) (e - (a + 3)))) else cmd R (cod F len a) (ix (nmb F len (a + 1) 1)))
  else (0, R)
theorem car_01 (R F : Nat → Int32) (len a e : Nat) : (car R F len a e).1 = 0 ∨ (car R F len a e).1 = 1 := by
  unfold car
  split
  · exact Or.inr rfl
  · split
    · exact swf_01 _ _ _
    · split
      · split
        · exact Or.inr rfl
        · exact cmd_01 _ _ _
      · exact Or.inl rfl
/-- m parts at most, from a on: how many were carried out, and the row -/
def oby (F : Nat → Int32) (len : Nat) : Nat → Nat → Nat → (Nat → Int32) → Nat × (Nat → Int32)
  | 0, _, i, R => (i, R)
  | m + 1, a, i, R => if len ≤ a then (i, R) else if (car R F len a (eop F a (len - a))).1 = 0 then (i, (car R F len a (eop F a (len - a))).2)
      else oby F len m (eop F a (len - a) + 1) (i + 1) (car R F len a (eop F a (len - a))).2
theorem eop_le (F : Nat → Int32) : ∀ (m a : Nat), eop F a m ≤ a + m := by
  intro m
  induction m with
  | zero => intro a; exact Nat.le_refl _
  | succ m ih =>
    intro a
    unfold eop
    split
    · omega
    · have := ih (a + 1); omega
def cObey (F : Nat → Int32) (len : Nat) : Int32 := if dfa F len = 16 then 0 else if dfa F len = 15 then 0 else 1
theorem cOb_ok {F : Nat → Int32} {len : Nat} (h : ¬ (if dfa F len = 16 then (1 : Int32) else if dfa F len = 15 then 1 else 0) = 0) : cObey F len = 0 := by
  unfold cObey
  split
  · rfl
  · rename_i q
    rw [if_neg q] at h
    split
    · rfl
    · rename_i q2
      rw [if_neg q2] at h
      exact absurd rfl h
theorem cOb_no {F : Nat → Int32} {len : Nat} (h : (if dfa F len = 16 then (1 : Int32) else if dfa F len = 15 then 1 else 0) = 0) : cObey F len = 1 := by
  unfold cObey
  split
  · rename_i q
    rw [if_pos q] at h
    exact absurd h (by decide)
  · rename_i q
    rw [if_neg q] at h
    split
    · rename_i q2
      rw [if_pos q2] at h
      exact absurd h (by decide)
    · rfl
theorem svn_le {n : Nat} (h : n ≤ 6) : svn n ≤ 6 := by
  unfold svn
  split <;> omega
