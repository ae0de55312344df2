/-! energies behind a tick -/
theorem dtk_16 {Q : Nat → Int32} {i : Nat} {w f : Int32} : dtk Q i w f (16 + 10 * i) = Q (16 + 10 * i) + w := by
  unfold dtk
  split
  · split
    · exact upd_eq
    · split
      · exact upd_eq
      · rw [upd_ne (by omega), upd_eq]
  · rw [upd_ne (by omega), upd_ne (by omega), upd_eq]
theorem tr1_16 {Q : Nat → Int32} {i j : Nat} : tr1 Q i (16 + 10 * j) = Q (16 + 10 * j) := by
  unfold tr1
  split
  · exact trd_at (by omega)
  · split
    · rfl
    · exact trd_at (by omega)
theorem tk_16 {R : Nat → Int32} {j : Nat} (hj : j < 3) : tk R (16 + 10 * j) = R (16 + 10 * j) + pw R j (fq R) := by
  have hD : tk R (16 + 10 * j) = tD R (16 + 10 * j) := by
    rw [tk, upd_ne (by omega)]
    show tr1 (tr1 (tr1 (tD R) 0) 1) 2 (16 + 10 * j) = _
    rw [tr1_16, tr1_16, tr1_16]
  have hC : tD R (16 + 10 * j) = tbs R 3 (16 + 10 * j) := by
    rw [tD, upd_ne (by omega)]
    unfold tC
    split
    · rfl
    · exact shd_at (by omega) (by omega)
  rw [hD, hC]
  have lo : ∀ n, n ≤ j → tbs R n (16 + 10 * j) = R (16 + 10 * j) := by
    intro n
    induction n with
    | zero => exact fun _ => upd_ne (by omega)
    | succ n ih =>
      intro hn
      rw [tbs, dtk_ak (by omega), ih (by omega)]
  have hi : ∀ n, j + 1 ≤ n → n ≤ 3 → tbs R n (16 + 10 * j) = R (16 + 10 * j) + pw R j (fq R) := by
    intro n
    induction n with
    | zero => intro h; omega
    | succ n ih =>
      intro h1 h2
      by_cases q : n = j
      · rw [q, tbs, dtk_16, lo j (Nat.le_refl _)]
      · rw [tbs, dtk_ak (by omega), ih (by omega) (by omega)]
  exact hi 3 (by omega) (Nat.le_refl _)
theorem i_6 (a b c x y z : Int32) : a + x + (b + y) + (c + z) = a + b + c + (x + y + z) := by ac_rfl
theorem en_tk {R : Nat → Int32} (hg : gd R) (h : en R) : en (tk R) := by
  unfold en at h ⊢
  rw [show (16 : Nat) = 16 + 10 * 0 from rfl, show (26 : Nat) = 16 + 10 * 1 from rfl, show (36 : Nat) = 16 + 10 * 2 from rfl, tk_16 (by omega), tk_16 (by omega), tk_16 (by omega), tk_7, i_6, psum_all hg]
  exact congrArg (· + (ld R - lk R (fq R))) h
theorem en_pt {R : Nat → Int32} (hg : gd R) (h : en R) : ∀ n, en (pt R n) := by
  intro n
  induction n with
  | zero => exact h
  | succ n ih => exact en_tk (gd_pt hg n) ih
