/-! the trips, as the model makes them -/
theorem upd_cm {R : Nat → Int32} {a b : Nat} {x y : Int32} (h : a ≠ b) : upd (upd R a x) b y = upd (upd R b y) a x := by
  funext k
  by_cases q : k = a
  · rw [q, upd_ne h, upd_eq, upd_eq]
  · rw [upd_ne (R := upd R b y) q]
    by_cases q2 : k = b
    · rw [q2, upd_eq, upd_eq]
    · rw [upd_ne q2, upd_ne q, upd_ne q2]
theorem rst_cm {R : Nat → Int32} {i a : Nat} {x : Int32} (h : a ≠ 13 + 10 * i ∧ a ≠ 14 + 10 * i ∧ a ≠ 15 + 10 * i) : rst (upd R a x) i = upd (rst R i) a x := by
  unfold rst
  rw [upd_cm h.1, upd_cm h.2.1, upd_cm h.2.2]
theorem trd_m {R : Nat → Int32} {i : Nat} : rst (upd (upd R (12 + 10 * i) 0) (17 + 10 * i) ((upd R (12 + 10 * i) 0) (17 + 10 * i) + 1)) i = trd R i := by
  rw [rst_cm ⟨by omega, by omega, by omega⟩, upd_ne (by omega)]
  rfl
def opz (R : Nat → Int32) : Prop := ∀ i, i < 3 → R (12 + 10 * i) = 0 → R (14 + 10 * i) = 0 ∧ R (15 + 10 * i) = 0
def lim (R : Nat → Int32) : Prop := 1 ≤ R 0 ∧ 1 ≤ R 1
def tz (R : Nat → Int32) : Prop := bz R ∧ opz R ∧ lim R
theorem tr_o {R : Nat → Int32} {i : Nat} (h : tz R) (hi : i < 3) (h2 : ¬ R (12 + 10 * i) = 1) : tr1 R i = R ∧ trc R i = 0 := by
  have e := h.2.1 i hi ((h.1.1 i hi).2.resolve_right h2)
  have a : ¬ R 0 ≤ R (14 + 10 * i) := by
    rw [e.1]
    exact fun q => absurd (Int32.le_trans h.2.2.1 q) (by decide)
  have b : R (15 + 10 * i) < R 1 := by
    rw [e.2]
    exact Int32.lt_of_lt_of_le (by decide) h.2.2.2
  exact ⟨by rw [tr1, if_neg a, if_pos b], by rw [trc, if_neg a, if_pos b]⟩
theorem tr_n {R : Nat → Int32} {i : Nat} (a : ¬ R 0 ≤ R (14 + 10 * i)) (b : R (15 + 10 * i) < R 1) : tr1 R i = R ∧ trc R i = 0 := ⟨by rw [tr1, if_neg a, if_pos b], by rw [trc, if_neg a, if_pos b]⟩
theorem tr_1 {R : Nat → Int32} {i : Nat} (a : R 0 ≤ R (14 + 10 * i)) : tr1 R i = trd R i ∧ trc R i = 1 := ⟨by rw [tr1, if_pos a], by rw [trc, if_pos a]⟩
theorem tr_2 {R : Nat → Int32} {i : Nat} (a : ¬ R 0 ≤ R (14 + 10 * i)) (b : ¬ R (15 + 10 * i) < R 1) : tr1 R i = trd R i ∧ trc R i = 1 := ⟨by rw [tr1, if_neg a, if_neg b], by rw [trc, if_neg a, if_neg b]⟩
theorem trd_at {R : Nat → Int32} {i k : Nat} (h : k ≠ 12 + 10 * i ∧ k ≠ 13 + 10 * i ∧ k ≠ 14 + 10 * i ∧ k ≠ 15 + 10 * i ∧ k ≠ 17 + 10 * i) : trd R i k = R k := by
  unfold trd
  rw [upd_ne h.2.2.2.2, rst_at ⟨h.2.1, h.2.2.1, h.2.2.2.1⟩, upd_ne h.1]
theorem trd_z {R : Nat → Int32} {i : Nat} (h : tz R) (hi : i < 3) : tz (trd R i) := by
  have e12 : trd R i (12 + 10 * i) = 0 := by
    unfold trd
    rw [upd_ne (by omega), rst_at ⟨by omega, by omega, by omega⟩, upd_eq]
  have e14 : trd R i (14 + 10 * i) = 0 := by
    unfold trd rst
    rw [upd_ne (by omega), upd_ne (by omega), upd_eq]
  have e15 : trd R i (15 + 10 * i) = 0 := by
    unfold trd rst
    rw [upd_ne (by omega), upd_eq]
  refine ⟨⟨fun j hj => ?_, fun j hj => ?_⟩, fun j hj => ?_, ?_⟩
  · refine ⟨?_, ?_⟩
    · rw [trd_at (by omega)]; exact (h.1.1 j hj).1
    · by_cases q : j = i
      · rw [q, e12]; exact Or.inl rfl
      · rw [trd_at (by omega)]; exact (h.1.1 j hj).2
  · rw [trd_at (by omega)]; exact h.1.2 j hj
  · by_cases q : j = i
    · rw [q]; exact fun _ => ⟨e14, e15⟩
    · rw [trd_at (by omega), trd_at (by omega), trd_at (by omega)]; exact h.2.1 j hj
  · rw [lim, trd_at (by omega), trd_at (by omega)]; exact h.2.2
theorem tr1_lo {R : Nat → Int32} {i k : Nat} (h : k < 8) : tr1 R i k = R k := by
  unfold tr1
  split
  · exact trd_at (by omega)
  · split
    · rfl
    · exact trd_at (by omega)
theorem trs_lo {R : Nat → Int32} {k : Nat} (h : k < 8) : ∀ n, trs R n k = R k := by
  intro n
  induction n with
  | zero => rfl
  | succ n ih =>
    show tr1 (trs R n) n k = _
    rw [tr1_lo h, ih]
