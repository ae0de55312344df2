/-! a tick, as the law makes it -/
theorem pw_b {R : Nat → Int32} {i : Nat} (h : gd R) (hi : i < 3) : -20000 ≤ (pw R i (fq R)).toInt ∧ (pw R i (fq R)).toInt ≤ 20000 := by
  by_cases q : alv R = 0
  · have h0 : R (12 + 10 * i) = 0 := by
      obtain ⟨a, b, c⟩ := alv_0 q
      match i, hi with
      | 0, _ => exact a
      | 1, _ => exact b
      | 2, _ => exact c
    rw [← pw_o hi h0, gv, if_pos h0]; decide
  · obtain ⟨k, hk, ek, -⟩ := fq_ex q
    obtain ⟨a, ha, ea⟩ := ld_nI h
    obtain ⟨-, t1, t2⟩ := tot_int h hk
    have g := gv_b (h.1 i hi) hk
    rw [ek]
    have e2 : (tot R (nI (4700 + k)) - ld R).toInt = (tot R (nI (4700 + k))).toInt - a := by
      rw [Int32.toInt_sub, ea, nI_toInt (by omega), Int.bmod_eq_of_le (by omega) (by omega)]
    unfold pw
    split
    · unfold mx
      split
      · rw [Int32.sub_zero]; omega
      · rename_i z
        rw [Int32.lt_iff_toInt_lt, e2, show (0 : Int32).toInt = 0 by decide] at z
        rw [Int32.toInt_sub, e2, Int.bmod_eq_of_le (by omega) (by omega)]; omega
    · omega
theorem tw_c {w : Int32} {a : Nat} (h1 : -20000 ≤ w.toInt) (h2 : w.toInt ≤ 20000) (ha : a ≤ 500) : (0 ≤ w + nI a / 20) ↔ -(nI a / 20) ≤ w := by
  rw [show (20 : Int32) = nI 20 from rfl, pk_div (by omega) (by decide) (by decide), Int32.le_iff_toInt_le, Int32.le_iff_toInt_le, Int32.toInt_add, Int32.toInt_neg, nI_toInt (by omega), show (0 : Int32).toInt = 0 by decide]
  rw [Int.bmod_eq_of_le (by omega) (by omega), Int.bmod_eq_of_le (by omega) (by omega)]
  omega
theorem i_pm (a b c d : Int32) : a + b - c + d = (a + b + d) - c := by
  rw [Int32.sub_eq_add_neg, Int32.sub_eq_add_neg]; ac_rfl
theorem fm_l {a s k : Nat} (ha : a < 1000) (hs : s ≤ 600) (hk : k ≤ 600) : (nI a + nI (4700 + s) - nI (4700 + k) + 1000) - (nI a + nI (4700 + s) - nI (4700 + k) + 1000) / 1000 * 1000 = fmd (nI a + nI (4700 + s) - nI (4700 + k)) 1000 ∧ ∃ b : Nat, b < 1000 ∧ fmd (nI a + nI (4700 + s) - nI (4700 + k)) 1000 = nI b := by
  have e : nI a + nI (4700 + s) - nI (4700 + k) + 1000 = nI (a + s + 1000 - k) := by
    rw [i_pm]
    rw [show (1000 : Int32) = nI 1000 from rfl, nI_add, nI_add, pk_sub (by omega)]
    congr 1; omega
  have r : ∀ m, m < 2 ^ 31 → nI m - nI m / 1000 * 1000 = nI (m % 1000) := fun m hm => pk_rem (d := 1000) hm (by decide) (by decide)
  rw [e, r _ (by omega)]
  rcases Nat.lt_or_ge (a + s) k with q | q
  · have hx : (nI a + nI (4700 + s) - nI (4700 + k)).toInt = (a : Int) + s - k := by
      rw [nI_add, pk_sub_toInt (by omega) (by omega)]; omega
    have hr := fmd_rem (nI a + nI (4700 + s) - nI (4700 + k))
    have ht : ((a : Int) + s - k).tmod 1000 = (a : Int) + s - k := by
      rw [show (a : Int) + s - k = -((k - (a + s) : Nat) : Int) by omega, Int.neg_tmod, Int.tmod_eq_of_lt (by omega) (by omega)]
    have hs2 : nI a + nI (4700 + s) - nI (4700 + k) - (nI a + nI (4700 + s) - nI (4700 + k)) / 1000 * 1000 = nI a + nI (4700 + s) - nI (4700 + k) := by
      apply Int32.toInt_inj.mp
      rw [hr, hx, ht]
    rw [fmd_n (by rw [hs2, Int32.le_iff_toInt_le, hx, show (0 : Int32).toInt = 0 by decide]; omega), hs2, e, Nat.mod_eq_of_lt (by omega)]
    exact ⟨rfl, _, by omega, rfl⟩
  · have hx : nI a + nI (4700 + s) - nI (4700 + k) = nI (a + s - k) := by
      rw [nI_add, pk_sub (by omega)]; congr 1; omega
    rw [hx, fmd_p (by rw [r _ (by omega)]; exact nI_pos' (by omega)), r _ (by omega)]
    refine ⟨?_, _, Nat.mod_lt _ (by decide), rfl⟩
    rw [show a + s + 1000 - k = (a + s - k) + 1000 by omega, Nat.add_mod_right]
theorem tbq_at {R Q : Nat → Int32} {i k : Nat} (hQ : Q = upd (tbs R i) 4 (R 4 + 1)) (hi : i ≤ 3) (h4 : k ≠ 4) (h7 : k ≠ 7) (hk : ∀ i, i < 3 → k ≠ 16 + 10 * i ∧ k ≠ 13 + 10 * i ∧ k ≠ 14 + 10 * i ∧ k ≠ 15 + 10 * i) : Q k = R k := by
  rw [hQ, upd_ne h4, tbs_at i hi h7 hk]
theorem dtk_l3 {R Q Q1 Q2 Q3 : Nat → Int32} {i : Nat} {a b : Int32} (hi : i < 3) (h1 : Q1 = upd Q (16 + 10 * i) (Q (16 + 10 * i) + pwv R i)) (h2 : Q2 = upd Q1 (14 + 10 * i) a) (h3 : Q3 = upd Q2 (15 + 10 * i) b) (hc : Q1 (12 + 10 * i) = 1)
    (ha : a = if pwv R i ≤ Q1 (8 + 10 * i) + Q1 (8 + 10 * i) / 10 then 0 else Q1 (14 + 10 * i) + 1) (hb : b = if -(Q2 (8 + 10 * i) / 20) ≤ pwv R i then 0 else Q2 (15 + 10 * i) + 1) : Q3 = dtk Q i (pw R i (fq R)) (fq R) := by
  have e12 : Q1 (12 + 10 * i) = Q (12 + 10 * i) := by rw [h1, upd_ne (by omega)]
  have e8 : Q1 (8 + 10 * i) = Q (8 + 10 * i) := by rw [h1, upd_ne (by omega)]
  have e14 : Q1 (14 + 10 * i) = Q (14 + 10 * i) := by rw [h1, upd_ne (by omega)]
  have f8 : Q2 (8 + 10 * i) = Q (8 + 10 * i) := by rw [h2, upd_ne (by omega), e8]
  have f15 : Q2 (15 + 10 * i) = Q (15 + 10 * i) := by rw [h2, upd_ne (by omega), h1, upd_ne (by omega)]
  rw [e8, e14] at ha
  rw [f8, f15] at hb
  rw [h3, hb, h2, ha, h1]
  unfold dtk
  rw [if_neg (show ¬ Q (12 + 10 * i) = 0 by rw [← e12, hc]; decide), pwv_i hi]
theorem dtk_lp {R Q Q1 Q2 : Nat → Int32} {i : Nat} {x : Int32} (hg : gd Q) (hi : i < 3) (h1 : Q1 = upd Q (16 + 10 * i) (Q (16 + 10 * i) + pwv R i)) (h2 : Q2 = upd Q1 (13 + 10 * i) x) (hc : ¬ Q1 (12 + 10 * i) = 1) (hr : Q1 (11 + 10 * i) = 1) (hf : ¬ fq R ≤ 0) (hx : x = fmd (Q (13 + 10 * i) + Q (10 + 10 * i) - fq R) 1000) : Q2 = dtk Q i (pw R i (fq R)) (fq R) := by
  have e12 : Q1 (12 + 10 * i) = Q (12 + 10 * i) := by rw [h1, upd_ne (by omega)]
  have e11 : Q1 (11 + 10 * i) = Q (11 + 10 * i) := by rw [h1, upd_ne (by omega)]
  rw [e12] at hc
  rw [e11] at hr
  rw [h2, hx, h1, dtk, if_pos (((gd_bz hg).1 i hi).2.resolve_right hc), if_neg (by rw [hr]; decide), if_neg hf, pwv_i hi]
theorem dtk_ln {R Q Q1 : Nat → Int32} {i : Nat} (hg : gd Q) (hi : i < 3) (h1 : Q1 = upd Q (16 + 10 * i) (Q (16 + 10 * i) + pwv R i)) (hc : ¬ Q1 (12 + 10 * i) = 1) (hr : ¬ Q1 (11 + 10 * i) = 1 ∨ fq R ≤ 0) : Q1 = dtk Q i (pw R i (fq R)) (fq R) := by
  have e12 : Q1 (12 + 10 * i) = Q (12 + 10 * i) := by rw [h1, upd_ne (by omega)]
  have e11 : Q1 (11 + 10 * i) = Q (11 + 10 * i) := by rw [h1, upd_ne (by omega)]
  rw [e12] at hc
  rw [e11] at hr
  rw [dtk, if_pos (((gd_bz hg).1 i hi).2.resolve_right hc)]
  split
  · rw [h1, pwv_i hi]
  · rename_i q
    rcases hr with hr | hr
    · exact absurd (((gd_bz hg).1 i hi).1.resolve_right hr) q
    · rw [if_pos hr, h1, pwv_i hi]
/-- the phase that runs -/
theorem ph_l {R Q Q1 : Nat → Int32} {i : Nat} (hg : gd R) (hi : i < 3) (hQ : Q = upd (tbs R i) 4 (R 4 + 1)) (hp : ph R) (hf : ¬ fq R ≤ 0) (h1 : Q1 = upd Q (16 + 10 * i) (Q (16 + 10 * i) + pwv R i)) : (Q1 (13 + 10 * i) + Q1 (10 + 10 * i) - fq R + 1000) - (Q1 (13 + 10 * i) + Q1 (10 + 10 * i) - fq R + 1000) / 1000 * 1000 = fmd (Q (13 + 10 * i) + Q (10 + 10 * i) - fq R) 1000 := by
  have e13 : Q1 (13 + 10 * i) = Q (13 + 10 * i) := by rw [h1, upd_ne (by omega)]
  have e10 : Q1 (10 + 10 * i) = Q (10 + 10 * i) := by rw [h1, upd_ne (by omega)]
  have f10 : Q (10 + 10 * i) = R (10 + 10 * i) := tbq_at hQ (by omega) (by omega) (by omega) (fun j hj => by omega)
  have f13 : Q (13 + 10 * i) = R (13 + 10 * i) := by
    have : ∀ n, n ≤ i → tbs R n (13 + 10 * i) = R (13 + 10 * i) := by
      intro n
      induction n with
      | zero => exact fun _ => upd_ne (by omega)
      | succ n ih =>
        intro hn
        rw [tbs, dtk_ak (by omega), ih (by omega)]
    rw [hQ, upd_ne (by omega), this i (Nat.le_refl _)]
  obtain ⟨k, hk, ek, -⟩ := fq_ex (al_f1 hf)
  obtain ⟨a, ha, ea⟩ := hp i hi
  obtain ⟨s, hs, es⟩ := (hg.1 i hi).2.2.1
  rw [e13, e10, f13, f10, ea, es, ek]
  exact (fm_l ha hs hk).1
theorem tw_r {R Q : Nat → Int32} {i : Nat} (hg : gd R) (hi : i < 3) (e : Q (8 + 10 * i) = R (8 + 10 * i)) : (0 ≤ pwv R i + Q (8 + 10 * i) / 20) ↔ -(Q (8 + 10 * i) / 20) ≤ pwv R i := by
  obtain ⟨a, -, ha, ea⟩ := (hg.1 i hi).1
  have b := pw_b hg hi
  rw [e, ea, pwv_i hi]
  exact tw_c b.1 b.2 ha
theorem dtk_next {R Q Q' : Nat → Int32} {i : Nat} (hQ : Q = upd (tbs R i) 4 (R 4 + 1)) (h : Q' = dtk Q i (pw R i (fq R)) (fq R)) : Q' = upd (tbs R (i + 1)) 4 (R 4 + 1) := by
  rw [h, hQ, tbs_1]
theorem gd_tbq {R Q : Nat → Int32} {i : Nat} (hg : gd R) (hi : i ≤ 3) (hQ : Q = upd (tbs R i) 4 (R 4 + 1)) : gd Q := by
  rw [hQ]
  exact gd_lo (gd_tbs hg i hi) (by omega)
/-! which breakers trip -/
theorem shd_at {Q : Nat → Int32} {k : Nat} (h : k < 38) (h6 : k ≠ 6) : shd Q k = Q k := by
  unfold shd
  split
  · rfl
  · rw [upd_ne h6, sh1, upd_ne (by omega), upd_ne (by omega)]
theorem tbs_set {R : Nat → Int32} {i k : Nat} (h : k < 2 ∨ k = 14 + 10 * i ∨ k = 15 + 10 * i) (hi : i < 3) : ∀ n, i + 1 ≤ n → n ≤ 3 → tbs R n k = tbs R (i + 1) k := by
  intro n
  induction n with
  | zero => intro h1; omega
  | succ n ih =>
    intro h1 h2
    by_cases q : n = i
    · rw [q]
    · rw [tbs, dtk_ak (by omega), ih (by omega) (by omega)]
theorem tD_set {R : Nat → Int32} {i k : Nat} (h : k < 2 ∨ k = 14 + 10 * i ∨ k = 15 + 10 * i) (hi : i < 3) : tD R k = tbs R (i + 1) k := by
  rw [tD, upd_ne (by omega)]
  unfold tC
  split
  · exact tbs_set h hi 3 (by omega) (by omega)
  · rw [shd_at (by omega) (by omega)]; exact tbs_set h hi 3 (by omega) (by omega)
theorem trc_e {Q Q' : Nat → Int32} {i : Nat} (h : ∀ k, (k < 2 ∨ k = 14 + 10 * i ∨ k = 15 + 10 * i) → Q k = Q' k) : trc Q i = trc Q' i := by
  unfold trc
  rw [h 0 (by omega), h 1 (by omega), h (14 + 10 * i) (by omega), h (15 + 10 * i) (by omega)]
theorem trc_D {R Q : Nat → Int32} {i : Nat} (hi : i < 3) (hQ : Q = upd (tbs R (i + 1)) 4 (R 4 + 1)) : trc (tD R) i = trc Q i := by
  refine trc_e (fun k hk => ?_)
  rw [tD_set hk hi, hQ, upd_ne (by omega)]
theorem trs_set {Q : Nat → Int32} {i k : Nat} (h : k < 2 ∨ k = 14 + 10 * i ∨ k = 15 + 10 * i) : ∀ n, n ≤ i → trs Q n k = Q k := by
  intro n
  induction n with
  | zero => exact fun _ => rfl
  | succ n ih =>
    intro hn
    show tr1 (trs Q n) n k = _
    unfold tr1
    split
    · rw [trd_at (by omega), ih (by omega)]
    · split
      · exact ih (by omega)
      · rw [trd_at (by omega), ih (by omega)]
theorem trc_T {R : Nat → Int32} {i : Nat} : trc (trs (tD R) i) i = trc (tD R) i := trc_e (fun _ hk => trs_set hk i (Nat.le_refl _))
/-- a bit for each breaker that trips -/
def tbt (R : Nat → Int32) : Nat → Int32
  | 0 => 0
  | k + 1 => tbt R k ||| (if trc (tD R) k = 0 then (0 : Int32) else (1 : Int32) <<< (nI k &&& 31))
theorem tbt_n {R : Nat → Int32} {k : Nat} (h : trc (tD R) k = 0) : tbt R (k + 1) = tbt R k ||| (0 : Int32) := by rw [tbt, if_pos h]
theorem tbt_y {R : Nat → Int32} {k : Nat} (h : trc (tD R) k = 1) : tbt R (k + 1) = tbt R k ||| ((1 : Int32) <<< (nI k &&& 31)) := by rw [tbt, if_neg (by rw [h]; decide)]
theorem tbt_b {R : Nat → Int32} {i : Nat} (hi : i < 3) : ((tbt R 3 >>> (nI i &&& 31)) &&& 1 = 1) ↔ trc (tD R) i = 1 := by
  have e : tbt R 3 = (((0 : Int32) ||| (if trc (tD R) 0 = 0 then (0 : Int32) else (1 : Int32) <<< (nI 0 &&& 31))) ||| (if trc (tD R) 1 = 0 then (0 : Int32) else (1 : Int32) <<< (nI 1 &&& 31))) ||| (if trc (tD R) 2 = 0 then (0 : Int32) else (1 : Int32) <<< (nI 2 &&& 31)) := rfl
  rw [e]
  rcases (show i = 0 ∨ i = 1 ∨ i = 2 by omega) with rfl | rfl | rfl <;> rcases trc_nn (tD R) 0 with a | a <;> rcases trc_nn (tD R) 1 with b | b <;> rcases trc_nn (tD R) 2 with c | c <;> rw [a, b, c] <;> decide
theorem trc_o {Q : Nat → Int32} {i : Nat} (hg : gd Q) (hi : i < 3) (h : Q (12 + 10 * i) = 0) : trc Q i = 0 := (tr_o (gd_tz hg) hi (by rw [h]; decide)).2
theorem trc_1 {Q : Nat → Int32} {i : Nat} (h : Q 0 ≤ Q (14 + 10 * i)) : trc Q i = 1 := by rw [trc, if_pos h]
theorem trc_2 {Q : Nat → Int32} {i : Nat} (h : ¬ Q 0 ≤ Q (14 + 10 * i)) (h2 : ¬ Q (15 + 10 * i) < Q 1) : trc Q i = 1 := by rw [trc, if_neg h, if_neg h2]
theorem trc_3 {Q : Nat → Int32} {i : Nat} (h : ¬ Q 0 ≤ Q (14 + 10 * i)) (h2 : Q (15 + 10 * i) < Q 1) : trc Q i = 0 := by rw [trc, if_neg h, if_pos h2]
theorem tr1_y {Q : Nat → Int32} {i : Nat} (h : trc Q i = 1) : trd Q i = tr1 Q i := by
  unfold trc at h
  unfold tr1
  by_cases q : Q 0 ≤ Q (14 + 10 * i)
  · rw [if_pos q]
  · rw [if_neg q] at h ⊢
    by_cases q2 : Q (15 + 10 * i) < Q 1
    · rw [if_pos q2] at h; exact absurd h (by decide)
    · rw [if_neg q2]
theorem tr1_n {Q : Nat → Int32} {i : Nat} (h : ¬ trc Q i = 1) : Q = tr1 Q i ∧ trc Q i = 0 := by
  unfold trc at h ⊢
  unfold tr1
  by_cases q : Q 0 ≤ Q (14 + 10 * i)
  · rw [if_pos q] at h; exact absurd rfl h
  · rw [if_neg q] at h ⊢
    rw [if_neg q]
    by_cases q2 : Q (15 + 10 * i) < Q 1
    · rw [if_pos q2, if_pos q2]; exact ⟨rfl, rfl⟩
    · rw [if_neg q2] at h; exact absurd rfl h
/-! what is shed -/
theorem ls_T {R Q : Nat → Int32} {la : Int32} (hQ : Q = upd (tbs R 3) 4 (R 4 + 1)) (h : la + 1 = nI (if lk R (fq R) ≤ 0 then 0 else shk Q 4)) (q : la < 0) : Q = tD R := by
  by_cases z : lk R (fq R) ≤ 0
  · rw [hQ, tD_0 z]
  · rw [if_neg z] at h
    rcases Nat.eq_zero_or_pos (shk Q 4) with w | w
    · rw [← tD_1 z, ← hQ, sh_0 w]
    · obtain ⟨m, hm⟩ : ∃ m, shk Q 4 = m + 1 := ⟨shk Q 4 - 1, by omega⟩
      have hm4 := shk_le Q 4
      rw [hm] at h
      rw [one_off h] at q
      exact absurd q (nI_pos (by omega))
theorem ls_F {R Q : Nat → Int32} {la : Int32} (hQ : Q = upd (tbs R 3) 4 (R 4 + 1)) (h : la + 1 = nI (if lk R (fq R) ≤ 0 then 0 else shk Q 4)) (q : ¬ la < 0) : ∃ k, k < 4 ∧ la = nI k ∧ shk Q 4 = k + 1 ∧ shd Q = tD R := by
  by_cases z : lk R (fq R) ≤ 0
  · rw [if_pos z] at h
    rw [neg1 h] at q
    exact absurd (by decide) q
  · rw [if_neg z] at h
    rcases Nat.eq_zero_or_pos (shk Q 4) with w | w
    · rw [w] at h
      rw [neg1 h] at q
      exact absurd (by decide) q
    · obtain ⟨m, hm⟩ : ∃ m, shk Q 4 = m + 1 := ⟨shk Q 4 - 1, by omega⟩
      have hm4 := shk_le Q 4
      rw [hm] at h
      exact ⟨m, by omega, one_off h, hm, by rw [hQ]; exact tD_1 z⟩
/-! phases and energies behind a tick -/
theorem ph_c {R R' : Nat → Int32} (h : ph R) (e : ∀ i, i < 3 → R' (13 + 10 * i) = R (13 + 10 * i)) : ph R' := fun i hi => by rw [e i hi]; exact h i hi
theorem ph_u {R : Nat → Int32} {k : Nat} {x : Int32} (h : ph R) (hk : ∀ i, i < 3 → 13 + 10 * i ≠ k) : ph (upd R k x) := ph_c h (fun i hi => upd_ne (hk i hi))
theorem ph_13 {R : Nat → Int32} {j : Nat} {x : Int32} (h : ph R) (hx : ∃ a : Nat, a < 1000 ∧ x = nI a) : ph (upd R (13 + 10 * j) x) := fun i hi => by
  by_cases e : 13 + 10 * i = 13 + 10 * j
  · rw [e, upd_eq]; exact hx
  · rw [upd_ne e]; exact h i hi
theorem ph_rst {R : Nat → Int32} {j : Nat} (h : ph R) : ph (rst R j) := by
  unfold rst
  exact ph_u (ph_u (ph_13 h ⟨0, by decide, rfl⟩) (fun i hi => by omega)) (fun i hi => by omega)
theorem ph_trd {R : Nat → Int32} {j : Nat} (h : ph R) : ph (trd R j) := by
  unfold trd
  exact ph_u (ph_rst (ph_u h (fun i hi => by omega))) (fun i hi => by omega)
theorem ph_tbs {R : Nat → Int32} (hg : gd R) (h : ph R) : ∀ n, n ≤ 3 → ph (tbs R n) := by
  intro n
  induction n with
  | zero => exact fun _ => ph_u h (fun i hi => by omega)
  | succ n ih =>
    intro hn
    have h0 := ih (by omega)
    rw [tbs]
    unfold dtk
    split
    · split
      · exact ph_u h0 (fun i hi => by omega)
      · split
        · exact ph_u h0 (fun i hi => by omega)
        · rename_i hf
          refine ph_13 (ph_u h0 (fun i hi => by omega)) ?_
          obtain ⟨k, hk, ek, -⟩ := fq_ex (al_f1 hf)
          obtain ⟨a, ha, ea⟩ := h0 n (by omega)
          obtain ⟨s, hs, es⟩ := ((gd_tbs hg n (by omega)).1 n (by omega)).2.2.1
          rw [ea, es, ek]
          exact (fm_l ha hs hk).2
    · exact ph_u (ph_u (ph_u h0 (fun i hi => by omega)) (fun i hi => by omega)) (fun i hi => by omega)
theorem ph_tk {R : Nat → Int32} (hg : gd R) (h : ph R) : ph (tk R) := by
  have h3 := ph_tbs hg h 3 (Nat.le_refl _)
  have hC : ph (tC R) := by
    unfold tC
    split
    · exact h3
    · exact ph_c h3 (fun i hi => shd_at (by omega) (by omega))
  have hD : ph (tD R) := ph_u hC (fun i hi => by omega)
  have h1 : ∀ (Q : Nat → Int32) i, ph Q → ph (tr1 Q i) := fun Q i hq => by
    unfold tr1
    split
    · exact ph_trd hq
    · split
      · exact hq
      · exact ph_trd hq
  exact ph_u (h1 _ _ (h1 _ _ (h1 _ _ hD))) (fun i hi => by omega)
theorem ph_pt {R : Nat → Int32} (hg : gd R) (h : ph R) : ∀ n, ph (pt R n) := by
  intro n
  induction n with
  | zero => exact h
  | succ n ih => exact ph_tk (gd_pt hg n) ih
/-- the energy of the sets is that of the board -/
def en (R : Nat → Int32) : Prop := R 16 + R 26 + R 36 = R 7
theorem en_c {R R' : Nat → Int32} (h : en R) (e : ∀ k, (k = 7 ∨ k = 16 ∨ k = 26 ∨ k = 36) → R' k = R k) : en R' := by
  unfold en
  rw [e 16 (by omega), e 26 (by omega), e 36 (by omega), e 7 (by omega)]
  exact h
theorem i_cm4 (a b c d : Int32) : a - b + (c + d) = a + c + d - b := by
  rw [Int32.sub_eq_add_neg, Int32.sub_eq_add_neg]; ac_rfl
theorem i_s0 (a b c m : Int32) : a - m + b + c = a + b + c - m := by
  rw [Int32.sub_eq_add_neg, Int32.sub_eq_add_neg]; ac_rfl
theorem i_s1 (a b c m : Int32) : a + (b - m) + c = a + b + c - m := by
  rw [Int32.sub_eq_add_neg, Int32.sub_eq_add_neg]; ac_rfl
theorem i_s2 (a b c m : Int32) : a + b + (c - m) = a + b + c - m := by
  rw [Int32.sub_eq_add_neg, Int32.sub_eq_add_neg]; ac_rfl
theorem psum_all {R : Nat → Int32} (hg : gd R) : pw R 0 (fq R) + pw R 1 (fq R) + pw R 2 (fq R) = ld R - lk R (fq R) := by
  by_cases q : alv R = 0
  · obtain ⟨a, b, c⟩ := alv_0 q
    rw [← pw_o (i := 0) (by omega) a, ← pw_o (i := 1) (by omega) b, ← pw_o (i := 2) (by omega) c, tot3, tot_0 q, lk, tot_0 q, ld, if_pos q]; decide
  · -- the lowest one takes what is too much
    have key : pw R 0 (fq R) + pw R 1 (fq R) + pw R 2 (fq R) = tot R (fq R) - mx (tot R (fq R) - ld R) 0 := by
      generalize fq R = f
      generalize hm : mx (tot R f - ld R) 0 = M
      rw [← tot3]
      have hb := gd_bz hg
      have h0 : R 12 = 0 ∨ R 12 = 1 := (hb.1 0 (by omega)).2
      have h1 : R 22 = 0 ∨ R 22 = 1 := (hb.1 1 (by omega)).2
      have h2 : R 32 = 0 ∨ R 32 = 1 := (hb.1 2 (by omega)).2
      rcases h0 with h0 | h0
      · rcases h1 with h1 | h1
        · rcases h2 with h2 | h2
          · exact absurd (if_pos ⟨h0, h1, h2⟩) q
          · have e : lw R = 2 := by simp [lw, h0, h1, h2]
            have g2 : gv R 2 f - M = pw R 2 f := by rw [← hm]; exact pw_lo (i := 2) e.symm
            rw [← pw_o (i := 0) (by omega) h0, ← pw_o (i := 1) (by omega) h1, ← g2]
            exact i_s2 _ _ _ _
        · have e : lw R = 1 := by simp [lw, h0, h1]
          have g1 : gv R 1 f - M = pw R 1 f := by rw [← hm]; exact pw_lo (i := 1) e.symm
          have g2 : gv R 2 f = pw R 2 f := pw_hi (i := 2) (q := 1) (by omega) (by omega) e
          rw [← pw_o (i := 0) (by omega) h0, ← g1, ← g2]
          exact i_s1 _ _ _ _
      · have e : lw R = 0 := by simp [lw, h0]
        have g0 : gv R 0 f - M = pw R 0 f := by rw [← hm]; exact pw_lo (i := 0) e.symm
        have g1 : gv R 1 f = pw R 1 f := pw_hi (i := 1) (q := 0) (by omega) (by omega) e
        have g2 : gv R 2 f = pw R 2 f := pw_hi (i := 2) (q := 0) (by omega) (by omega) e
        rw [← g0, ← g1, ← g2]
        exact i_s0 _ _ _ _
    rw [key]
    have hl := gd_low hg
    have hh := gd_low2 hg
    rw [lk]
    generalize tot R (fq R) = t at hl hh ⊢
    generalize ld R = d at hl hh ⊢
    by_cases z : t - d < 0
    · rw [mx_z (Int32.le_of_lt z), mx_lt hh z, Int32.sub_zero, Int32.sub_neg, Int32.add_comm, Int32.sub_add_cancel]
    · rw [mx_ge (Int32.not_lt.mp z), Int32.sub_zero]
      by_cases w : t - d ≤ 0
      · rw [mx_z w, Int32.sub_zero]
        have e := Int32.le_antisymm w (Int32.not_lt.mp z)
        rw [← Int32.sub_add_cancel t d, e, Int32.zero_add]
      · rw [mx_n w, Int32.sub_eq_add_neg, Int32.neg_sub, Int32.add_comm, Int32.sub_add_cancel]
