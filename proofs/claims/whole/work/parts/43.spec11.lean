/-! a tick, as the model makes it -/
theorem fq_a0 {R : Nat → Int32} (h : alv R = 0) : fq R ≤ 0 := by
  rw [fq, if_pos h]
  decide
theorem fsb_le (ok : Nat → Bool) : ∀ n, fsb ok n ≤ n := by
  intro n
  induction n with
  | zero => exact Nat.le_refl _
  | succ n ih =>
    unfold fsb
    split
    · exact Nat.le_refl _
    · omega
theorem fq_a1 {R : Nat → Int32} (h : ¬ alv R = 0) : ¬ fq R ≤ 0 := by
  rw [fq, if_neg h]
  have := fsb_le (fok R) 600
  exact nI_ge (a := 0) (b := 4700 + fsb (fok R) 600) (by omega) (by omega)
theorem dtk_ak {Q : Nat → Int32} {i k : Nat} {w f : Int32} (h : k ≠ 13 + 10 * i ∧ k ≠ 14 + 10 * i ∧ k ≠ 15 + 10 * i ∧ k ≠ 16 + 10 * i) : dtk Q i w f k = Q k := by
  unfold dtk
  split
  · split
    · rw [upd_ne h.2.2.2]
    · split
      · rw [upd_ne h.2.2.2]
      · rw [upd_ne h.1, upd_ne h.2.2.2]
  · rw [upd_ne h.2.2.1, upd_ne h.2.1, upd_ne h.2.2.2]
theorem dtk_bz {Q : Nat → Int32} {i : Nat} {w f : Int32} (h : bz Q) (hi : i < 3) : bz (dtk Q i w f) := by
  refine ⟨fun j hj => ⟨?_, ?_⟩, fun j hj => ?_⟩
  · rw [dtk_ak (by omega)]; exact (h.1 j hj).1
  · rw [dtk_ak (by omega)]; exact (h.1 j hj).2
  · rw [dtk_ak (by omega)]; exact h.2 j hj
theorem dtk_cm {Q : Nat → Int32} {i : Nat} {w f x : Int32} : dtk (upd Q 4 x) i w f = upd (dtk Q i w f) 4 x := by
  unfold dtk
  rw [upd_ne (R := Q) (show 12 + 10 * i ≠ 4 by omega), upd_ne (R := Q) (show 11 + 10 * i ≠ 4 by omega), upd_ne (R := Q) (show 16 + 10 * i ≠ 4 by omega), upd_ne (R := Q) (show 13 + 10 * i ≠ 4 by omega), upd_ne (R := Q) (show 10 + 10 * i ≠ 4 by omega), upd_ne (R := Q) (show 8 + 10 * i ≠ 4 by omega), upd_ne (R := Q) (show 14 + 10 * i ≠ 4 by omega), upd_ne (R := Q) (show 15 + 10 * i ≠ 4 by omega), upd_cm (R := Q) (a := 4) (b := 16 + 10 * i) (by omega)]
  split
  · split
    · rfl
    · split
      · rfl
      · rw [upd_cm (a := 4) (by omega)]
  · rw [upd_cm (a := 4) (b := 14 + 10 * i) (by omega), upd_cm (a := 4) (b := 15 + 10 * i) (by omega)]
theorem dtk_w {Q P : Nat → Int32} {i : Nat} {f y : Int32} (h : (upd Q (16 + 10 * i) y) (12 + 10 * i) = 1) (hy : y = Q (16 + 10 * i) + P i) : wtc (upd Q (16 + 10 * i) y) P i = dtk Q i (P i) f := by
  subst hy
  rw [upd_ne (by omega)] at h
  unfold wtc dtk
  rw [if_neg (show ¬ Q (12 + 10 * i) = 0 by rw [h]; decide)]
  rw [upd_ne (show 15 + 10 * i ≠ 14 + 10 * i by omega), upd_ne (R := Q) (show 8 + 10 * i ≠ 16 + 10 * i by omega), upd_ne (R := Q) (show 14 + 10 * i ≠ 16 + 10 * i by omega), upd_ne (R := Q) (show 15 + 10 * i ≠ 16 + 10 * i by omega)]
theorem dtk_t {Q P : Nat → Int32} {i : Nat} {f y : Int32} (hb : bz Q) (hi : i < 3) (h : ¬ (upd Q (16 + 10 * i) y) (12 + 10 * i) = 1) (h2 : (upd Q (16 + 10 * i) y) (11 + 10 * i) = 1) (hf : ¬ f ≤ 0) (hy : y = Q (16 + 10 * i) + P i) : upd (upd Q (16 + 10 * i) y) (13 + 10 * i) (fmd ((upd Q (16 + 10 * i) y) (13 + 10 * i) + (upd Q (16 + 10 * i) y) (10 + 10 * i) - f) 1000) = dtk Q i (P i) f := by
  subst hy
  rw [upd_ne (by omega)] at h h2
  unfold dtk
  rw [if_pos ((hb.1 i hi).2.resolve_right h), if_neg (by rw [h2]; decide), if_neg hf, upd_ne (R := Q) (show 13 + 10 * i ≠ 16 + 10 * i by omega), upd_ne (R := Q) (show 10 + 10 * i ≠ 16 + 10 * i by omega)]
theorem dtk_n {Q P : Nat → Int32} {i : Nat} {f y : Int32} (hb : bz Q) (hi : i < 3) (h : ¬ (upd Q (16 + 10 * i) y) (12 + 10 * i) = 1) (h2 : ¬ (upd Q (16 + 10 * i) y) (11 + 10 * i) = 1 ∨ f ≤ 0) (hy : y = Q (16 + 10 * i) + P i) : upd Q (16 + 10 * i) y = dtk Q i (P i) f := by
  subst hy
  rw [upd_ne (by omega)] at h h2
  unfold dtk
  rw [if_pos ((hb.1 i hi).2.resolve_right h)]
  split
  · rfl
  · rename_i q
    rcases h2 with h2 | h2
    · exact absurd ((hb.1 i hi).1.resolve_right h2) q
    · rw [if_pos h2]
theorem shk_cm {Q : Nat → Int32} {x : Int32} : ∀ n, shk (upd Q 4 x) n = shk Q n := by
  intro n
  induction n with
  | zero => rfl
  | succ n ih => rw [shk, shk, upd_ne (by omega), upd_ne (by omega), ih]
theorem shd_cm {Q : Nat → Int32} {x : Int32} : shd (upd Q 4 x) = upd (shd Q) 4 x := by
  unfold shd
  rw [shk_cm, upd_ne (show (6 : Nat) ≠ 4 by decide)]
  split
  · rfl
  · unfold sh1
    rw [upd_ne (show 40 + 3 * (shk Q 4 - 1) ≠ 4 by omega), upd_cm (a := 4) (b := 39 + 3 * (shk Q 4 - 1)) (by omega), upd_cm (a := 4) (b := 40 + 3 * (shk Q 4 - 1)) (by omega), upd_cm (a := 4) (b := 6) (by omega)]
theorem shd_45 {Q : Nat → Int32} {k : Nat} (h : k < 6) : shd Q k = Q k := by
  unfold shd
  split
  · rfl
  · unfold sh1
    rw [upd_ne (by omega), upd_ne (by omega), upd_ne (by omega)]
theorem tbs_lo {R : Nat → Int32} {k : Nat} (h : k < 7) : ∀ n, tbs R n k = R k := by
  intro n
  induction n with
  | zero => exact upd_ne (by omega)
  | succ n ih =>
    show dtk (tbs R n) n _ _ k = _
    rw [dtk_ak (by omega), ih]
theorem tC_lo {R : Nat → Int32} {k : Nat} (h : k < 6) : tC R k = R k := by
  unfold tC
  split
  · exact tbs_lo (by omega) 3
  · rw [shd_45 h]; exact tbs_lo (by omega) 3
theorem tD_0 {R : Nat → Int32} (h : lk R (fq R) ≤ 0) : upd (tbs R 3) 4 (R 4 + 1) = tD R := by
  unfold tD
  rw [tC_lo (by decide)]
  unfold tC
  rw [if_pos h]
theorem tD_1 {R : Nat → Int32} (h : ¬ lk R (fq R) ≤ 0) : shd (upd (tbs R 3) 4 (R 4 + 1)) = tD R := by
  unfold tD
  rw [tC_lo (by decide), shd_cm]
  unfold tC
  rw [if_neg h]
theorem tD_5 {R : Nat → Int32} : tD R 5 = R 5 := by
  unfold tD
  rw [upd_ne (by decide), tC_lo (by decide)]
theorem pj_lo {R : Nat → Int32} {k : Nat} {x : Int32} (h : k < 8) : pj R (upd R k x) := ⟨fun i _ => ⟨(upd_ne (by omega)).symm, (upd_ne (by omega)).symm, (upd_ne (by omega)).symm, (upd_ne (by omega)).symm⟩, fun i _ => ⟨(upd_ne (by omega)).symm, (upd_ne (by omega)).symm⟩⟩
theorem bz_lo {R : Nat → Int32} {k : Nat} {x : Int32} (h : k < 8) (hb : bz R) : bz (upd R k x) := ⟨fun i hi => by rw [upd_ne (by omega), upd_ne (by omega)]; exact hb.1 i hi, fun i hi => by rw [upd_ne (by omega)]; exact hb.2 i hi⟩
theorem wz_lo {R : Nat → Int32} {k : Nat} {x : Int32} (h : k < 8) (hw : wz R) : wz (upd R k x) := ⟨bz_lo h hw.1, fun i hi => by rw [upd_ne (by omega)]; exact hw.2.1 i hi, by rw [← ld_c (pj_lo h), ← fq_c (pj_lo h), ← tot_c (pj_lo h)]; exact hw.2.2⟩
theorem tA_4 {R : Nat → Int32} : upd (upd R 4 (R 4 + 1)) 7 ((upd R 4 (R 4 + 1)) 7 + (ld (upd R 4 (R 4 + 1)) - lk R (fq R))) = upd (tbs R 0) 4 (R 4 + 1) := by
  rw [upd_ne (show (7 : Nat) ≠ 4 by decide), ← ld_c (pj_lo (R := R) (by decide)), upd_cm (by decide)]
  rfl
theorem tbs_1 {R : Nat → Int32} {i : Nat} : dtk (upd (tbs R i) 4 (R 4 + 1)) i (pw R i (fq R)) (fq R) = upd (tbs R (i + 1)) 4 (R 4 + 1) := dtk_cm
