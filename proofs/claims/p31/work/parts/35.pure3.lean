/-! trips and ticks, row by row -/
theorem upd_cm {R : Nat → Int32} {a b : Nat} {x y : Int32} (h : a ≠ b) : upd (upd R a x) b y = upd (upd R b y) a x := by
  funext k
  by_cases q : k = a
  · rw [q, upd_ne h, upd_eq, upd_eq]
  · rw [upd_ne (R := upd R b y) q]
    by_cases q2 : k = b
    · rw [q2, upd_eq, upd_eq]
    · rw [upd_ne q2, upd_ne q, upd_ne q2]
theorem rst_cm {R : Nat → Int32} {i a : Nat} {x : Int32} (h : a ≠ 13 + 10 * i ∧ a ≠ 14 + 10 * i ∧ a ≠ 15 + 10 * i) : rst (upd R a x) i = upd (rst R i) a x := by
  unfold rst
  rw [upd_cm h.1, upd_cm h.2.1, upd_cm h.2.2]
theorem trd_m {R : Nat → Int32} {i : Nat} : rst (upd (upd R (12 + 10 * i) 0) (17 + 10 * i) ((upd R (12 + 10 * i) 0) (17 + 10 * i) + 1)) i = trd R i := by
  rw [rst_cm ⟨by omega, by omega, by omega⟩, upd_ne (by omega)]
  rfl
def opz (R : Nat → Int32) : Prop := ∀ i, i < 3 → R (12 + 10 * i) = 0 → R (14 + 10 * i) = 0 ∧ R (15 + 10 * i) = 0
def lim (R : Nat → Int32) : Prop := 1 ≤ R 0 ∧ 1 ≤ R 1
def tz (R : Nat → Int32) : Prop := bz R ∧ opz R ∧ lim R
theorem tr_o {R : Nat → Int32} {i : Nat} (h : tz R) (hi : i < 3) (h2 : ¬ R (12 + 10 * i) = 1) : tr1 R i = R ∧ trc R i = 0 := by
  have e := h.2.1 i hi ((h.1.1 i hi).2.resolve_right h2)
  have a : ¬ R 0 ≤ R (14 + 10 * i) := by
    rw [e.1]
    exact fun q => absurd (Int32.le_trans h.2.2.1 q) (by decide)
  have b : R (15 + 10 * i) < R 1 := by
    rw [e.2]
    exact Int32.lt_of_lt_of_le (by decide) h.2.2.2
  exact ⟨by rw [tr1, if_neg a, if_pos b], by rw [trc, if_neg a, if_pos b]⟩
theorem tr_n {R : Nat → Int32} {i : Nat} (a : ¬ R 0 ≤ R (14 + 10 * i)) (b : R (15 + 10 * i) < R 1) : tr1 R i = R ∧ trc R i = 0 := ⟨by rw [tr1, if_neg a, if_pos b], by rw [trc, if_neg a, if_pos b]⟩
theorem tr_1 {R : Nat → Int32} {i : Nat} (a : R 0 ≤ R (14 + 10 * i)) : tr1 R i = trd R i ∧ trc R i = 1 := ⟨by rw [tr1, if_pos a], by rw [trc, if_pos a]⟩
theorem tr_2 {R : Nat → Int32} {i : Nat} (a : ¬ R 0 ≤ R (14 + 10 * i)) (b : ¬ R (15 + 10 * i) < R 1) : tr1 R i = trd R i ∧ trc R i = 1 := ⟨by rw [tr1, if_neg a, if_neg b], by rw [trc, if_neg a, if_neg b]⟩
theorem trd_at {R : Nat → Int32} {i k : Nat} (h : k ≠ 12 + 10 * i ∧ k ≠ 13 + 10 * i ∧ k ≠ 14 + 10 * i ∧ k ≠ 15 + 10 * i ∧ k ≠ 17 + 10 * i) : trd R i k = R k := by
  unfold trd
  rw [upd_ne h.2.2.2.2, rst_at ⟨h.2.1, h.2.2.1, h.2.2.2.1⟩, upd_ne h.1]
theorem trd_z {R : Nat → Int32} {i : Nat} (h : tz R) (hi : i < 3) : tz (trd R i) := by
  have e12 : trd R i (12 + 10 * i) = 0 := by
    unfold trd
    rw [upd_ne (by omega), rst_at ⟨by omega, by omega, by omega⟩, upd_eq]
  have e14 : trd R i (14 + 10 * i) = 0 := by
    unfold trd rst
    rw [upd_ne (by omega), upd_ne (by omega), upd_eq]
  have e15 : trd R i (15 + 10 * i) = 0 := by
    unfold trd rst
    rw [upd_ne (by omega), upd_eq]
  refine ⟨⟨fun j hj => ?_, fun j hj => ?_⟩, fun j hj => ?_, ?_⟩
  · refine ⟨?_, ?_⟩
    · rw [trd_at (by omega)]; exact (h.1.1 j hj).1
    · by_cases q : j = i
      · rw [q, e12]; exact Or.inl rfl
      · rw [trd_at (by omega)]; exact (h.1.1 j hj).2
  · rw [trd_at (by omega)]; exact h.1.2 j hj
  · by_cases q : j = i
    · rw [q]; exact fun _ => ⟨e14, e15⟩
    · rw [trd_at (by omega), trd_at (by omega), trd_at (by omega)]; exact h.2.1 j hj
  · rw [lim, trd_at (by omega), trd_at (by omega)]; exact h.2.2
theorem tr1_lo {R : Nat → Int32} {i k : Nat} (h : k < 8) : tr1 R i k = R k := by
  unfold tr1
  split
  · exact trd_at (by omega)
  · split
    · rfl
    · exact trd_at (by omega)
theorem trs_lo {R : Nat → Int32} {k : Nat} (h : k < 8) : ∀ n, trs R n k = R k := by
  intro n
  induction n with
  | zero => rfl
  | succ n ih =>
    show tr1 (trs R n) n k = _
    rw [tr1_lo h, ih]

theorem fq_a0 {R : Nat → Int32} (h : alv R = 0) : fq R ≤ 0 := by
  rw [fq, if_pos h]
  decide
theorem fsb_le (ok : Nat → Bool) : ∀ n, fsb ok n ≤ n := by
  intro n
  induction n with
  | zero => exact Nat.le_refl _
  | succ n ih =>
    unfold fsb
    split
    · exact Nat.le_refl _
    · omega
theorem fq_a1 {R : Nat → Int32} (h : ¬ alv R = 0) : ¬ fq R ≤ 0 := by
  rw [fq, if_neg h]
  have := fsb_le (fok R) 600
  exact nI_ge (a := 0) (b := 4700 + fsb (fok R) 600) (by omega) (by omega)
theorem dtk_ak {Q : Nat → Int32} {i k : Nat} {w f : Int32} (h : k ≠ 13 + 10 * i ∧ k ≠ 14 + 10 * i ∧ k ≠ 15 + 10 * i ∧ k ≠ 16 + 10 * i) : dtk Q i w f k = Q k := by
  unfold dtk
  split
  · split
    · rw [upd_ne h.2.2.2]
    · split
      · rw [upd_ne h.2.2.2]
      · rw [upd_ne h.1, upd_ne h.2.2.2]
  · rw [upd_ne h.2.2.1, upd_ne h.2.1, upd_ne h.2.2.2]
theorem dtk_bz {Q : Nat → Int32} {i : Nat} {w f : Int32} (h : bz Q) (hi : i < 3) : bz (dtk Q i w f) := by
  refine ⟨fun j hj => ⟨?_, ?_⟩, fun j hj => ?_⟩
  · rw [dtk_ak (by omega)]; exact (h.1 j hj).1
  · rw [dtk_ak (by omega)]; exact (h.1 j hj).2
  · rw [dtk_ak (by omega)]; exact h.2 j hj
theorem dtk_cm {Q : Nat → Int32} {i : Nat} {w f x : Int32} : dtk (upd Q 4 x) i w f = upd (dtk Q i w f) 4 x := by
  unfold dtk
  rw [upd_ne (R := Q) (show 12 + 10 * i ≠ 4 by omega), upd_ne (R := Q) (show 11 + 10 * i ≠ 4 by omega), upd_ne (R := Q) (show 16 + 10 * i ≠ 4 by omega), upd_ne (R := Q) (show 13 + 10 * i ≠ 4 by omega), upd_ne (R := Q) (show 10 + 10 * i ≠ 4 by omega), upd_ne (R := Q) (show 8 + 10 * i ≠ 4 by omega), upd_ne (R := Q) (show 14 + 10 * i ≠ 4 by omega), upd_ne (R := Q) (show 15 + 10 * i ≠ 4 by omega), upd_cm (R := Q) (a := 4) (b := 16 + 10 * i) (by omega)]
  split
  · split
    · rfl
    · split
      · rfl
      · rw [upd_cm (a := 4) (by omega)]
  · rw [upd_cm (a := 4) (b := 14 + 10 * i) (by omega), upd_cm (a := 4) (b := 15 + 10 * i) (by omega)]
theorem shk_cm {Q : Nat → Int32} {x : Int32} : ∀ n, shk (upd Q 4 x) n = shk Q n := by
  intro n
  induction n with
  | zero => rfl
  | succ n ih => rw [shk, shk, upd_ne (by omega), upd_ne (by omega), ih]
theorem shd_cm {Q : Nat → Int32} {x : Int32} : shd (upd Q 4 x) = upd (shd Q) 4 x := by
  unfold shd
  rw [shk_cm, upd_ne (show (6 : Nat) ≠ 4 by decide)]
  split
  · rfl
  · unfold sh1
    rw [upd_ne (show 40 + 3 * (shk Q 4 - 1) ≠ 4 by omega), upd_cm (a := 4) (b := 39 + 3 * (shk Q 4 - 1)) (by omega), upd_cm (a := 4) (b := 40 + 3 * (shk Q 4 - 1)) (by omega), upd_cm (a := 4) (b := 6) (by omega)]
theorem shd_45 {Q : Nat → Int32} {k : Nat} (h : k < 6) : shd Q k = Q k := by
  unfold shd
  split
  · rfl
  · unfold sh1
    rw [upd_ne (by omega), upd_ne (by omega), upd_ne (by omega)]
theorem tbs_lo {R : Nat → Int32} {k : Nat} (h : k < 7) : ∀ n, tbs R n k = R k := by
  intro n
  induction n with
  | zero => exact upd_ne (by omega)
  | succ n ih =>
    show dtk (tbs R n) n _ _ k = _
    rw [dtk_ak (by omega), ih]
theorem tC_lo {R : Nat → Int32} {k : Nat} (h : k < 6) : tC R k = R k := by
  unfold tC
  split
  · exact tbs_lo (by omega) 3
  · rw [shd_45 h]; exact tbs_lo (by omega) 3
theorem tD_0 {R : Nat → Int32} (h : lk R (fq R) ≤ 0) : upd (tbs R 3) 4 (R 4 + 1) = tD R := by
  unfold tD
  rw [tC_lo (by decide)]
  unfold tC
  rw [if_pos h]
theorem tD_1 {R : Nat → Int32} (h : ¬ lk R (fq R) ≤ 0) : shd (upd (tbs R 3) 4 (R 4 + 1)) = tD R := by
  unfold tD
  rw [tC_lo (by decide), shd_cm]
  unfold tC
  rw [if_neg h]
theorem tD_5 {R : Nat → Int32} : tD R 5 = R 5 := by
  unfold tD
  rw [upd_ne (by decide), tC_lo (by decide)]
theorem pj_lo {R : Nat → Int32} {k : Nat} {x : Int32} (h : k < 8) : pj R (upd R k x) := ⟨fun i _ => ⟨(upd_ne (by omega)).symm, (upd_ne (by omega)).symm, (upd_ne (by omega)).symm, (upd_ne (by omega)).symm⟩, fun i _ => ⟨(upd_ne (by omega)).symm, (upd_ne (by omega)).symm⟩⟩
theorem bz_lo {R : Nat → Int32} {k : Nat} {x : Int32} (h : k < 8) (hb : bz R) : bz (upd R k x) := ⟨fun i hi => by rw [upd_ne (by omega), upd_ne (by omega)]; exact hb.1 i hi, fun i hi => by rw [upd_ne (by omega)]; exact hb.2 i hi⟩
theorem wz_lo {R : Nat → Int32} {k : Nat} {x : Int32} (h : k < 8) (hw : wz R) : wz (upd R k x) := ⟨bz_lo h hw.1, fun i hi => by rw [upd_ne (by omega)]; exact hw.2.1 i hi, by rw [← ld_c (pj_lo h), ← fq_c (pj_lo h), ← tot_c (pj_lo h)]; exact hw.2.2⟩
theorem tA_4 {R : Nat → Int32} : upd (upd R 4 (R 4 + 1)) 7 ((upd R 4 (R 4 + 1)) 7 + (ld (upd R 4 (R 4 + 1)) - lk R (fq R))) = upd (tbs R 0) 4 (R 4 + 1) := by
  rw [upd_ne (show (7 : Nat) ≠ 4 by decide), ← ld_c (pj_lo (R := R) (by decide)), upd_cm (by decide)]
  rfl
theorem tbs_1 {R : Nat → Int32} {i : Nat} : dtk (upd (tbs R i) 4 (R 4 + 1)) i (pw R i (fq R)) (fq R) = upd (tbs R (i + 1)) 4 (R 4 + 1) := dtk_cm

theorem trc_nn (R : Nat → Int32) (i : Nat) : trc R i = 0 ∨ trc R i = 1 := by
  unfold trc
  split
  · exact Or.inr rfl
  · split
    · exact Or.inl rfl
    · exact Or.inr rfl
theorem tkn_nn (R : Nat → Int32) : 0 ≤ tkn R := by
  show 0 ≤ trm (tD R) 3
  rw [trm, trm, trm, trm]
  rcases trc_nn (trs (tD R) 0) 0 with a | a <;> rcases trc_nn (trs (tD R) 1) 1 with b | b <;> rcases trc_nn (trs (tD R) 2) 2 with c | c <;> rw [a, b, c] <;> decide
theorem ngo_s {R : Nat → Int32} {k m : Nat} {x : Int32} (h : x = if (0 : Int32) = 0 then ngo R k (m + 1) else nI k) : x = if tkn (pt R k) = 0 then ngo R (k + 1) m else nI (k + 1) := by
  rw [if_pos rfl] at h
  rw [h]
  show (if tkn (pt R k) ≤ 0 then ngo R (k + 1) m else nI (k + 1)) = _
  by_cases q : tkn (pt R k) = 0
  · rw [if_pos q, if_pos (by rw [q]; decide)]
  · rw [if_neg q, if_neg (fun q2 => q (Int32.le_antisymm q2 (tkn_nn _)))]
theorem tk_at {R : Nat → Int32} {j : Nat} (hj : j < 3) : tk R (11 + 10 * j) = R (11 + 10 * j) := by
  have h1 : ∀ (Q : Nat → Int32) i, tr1 Q i (11 + 10 * j) = Q (11 + 10 * j) := fun Q i => by
    unfold tr1
    split
    · exact trd_at (by omega)
    · split
      · rfl
      · exact trd_at (by omega)
  have h2 : shd (tbs R 3) (11 + 10 * j) = tbs R 3 (11 + 10 * j) := by
    unfold shd
    split
    · rfl
    · unfold sh1
      rw [upd_ne (by omega), upd_ne (by omega), upd_ne (by omega)]
  have h3 : tbs R 3 (11 + 10 * j) = R (11 + 10 * j) := by
    show dtk (dtk (dtk (tA R) 0 _ _) 1 _ _) 2 _ _ (11 + 10 * j) = _
    rw [dtk_ak (by omega), dtk_ak (by omega), dtk_ak (by omega)]
    exact upd_ne (by omega)
  have h4 : tC R (11 + 10 * j) = R (11 + 10 * j) := by
    unfold tC
    split
    · exact h3
    · rw [h2, h3]
  unfold tk
  rw [upd_ne (by omega)]
  show tr1 (tr1 (tr1 (tD R) 0) 1) 2 (11 + 10 * j) = _
  rw [h1, h1, h1]
  unfold tD
  rw [upd_ne (by omega), h4]
theorem pt_at {R : Nat → Int32} {j : Nat} (hj : j < 3) : ∀ i, pt R i (11 + 10 * j) = R (11 + 10 * j) := by
  intro i
  induction i with
  | zero => rfl
  | succ i ih =>
    show tk (pt R i) (11 + 10 * j) = _
    rw [tk_at hj, ih]
theorem cgo_0 {R : Nat → Int32} {j : Nat} (hj : j < 3) (h : R (11 + 10 * j) = 0) : ∀ m i, cgo R j i m = -1 := by
  intro m
  induction m with
  | zero => intro i; rfl
  | succ m ih =>
    intro i
    rw [cgo, if_neg, ih]
    rw [rsn, if_pos (by rw [pt_at hj, h])]
    decide
theorem cin_m {R : Nat → Int32} {j : Nat} (hj : j < 3) : cin R j = cgo R j 0 501 := by
  unfold cin
  split
  · rename_i h
    rw [cgo_0 hj h]
  · rfl
theorem rsn_nn (R : Nat → Int32) (j : Nat) : 0 ≤ rsn R j := by
  unfold rsn
  repeat' split
  all_goals decide
theorem tif_1 {R : Nat → Int32} {j : Nat} {x : Int32} : tif R j x 1 = pw (usp R j x) j (fq (usp R j x)) := by simp [tif]
theorem nI_13 {i : Nat} (h : i < 13) : nI i = 0 ∨ nI i = 1 ∨ nI i = 2 ∨ nI i = 3 ∨ nI i = 4 ∨ nI i = 5 ∨ nI i = 6 ∨ nI i = 7 ∨ nI i = 8 ∨ nI i = 9 ∨ nI i = 10 ∨ nI i = 11 ∨ nI i = 12 := by
  revert i
  decide
theorem nI_12 {i : Nat} (h : i < 12) : nI i = 0 ∨ nI i = 1 ∨ nI i = 2 ∨ nI i = 3 ∨ nI i = 4 ∨ nI i = 5 ∨ nI i = 6 ∨ nI i = 7 ∨ nI i = 8 ∨ nI i = 9 ∨ nI i = 10 ∨ nI i = 11 := by
  revert i
  decide

