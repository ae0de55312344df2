/-! ranges of a row, and that every step keeps them -/
theorem td_mono {a b d : Int} (hd : 0 < d) (h : a ≤ b) : a.tdiv d ≤ b.tdiv d := by
  have nn : ∀ x : Int, 0 ≤ x → x.tdiv d = x / d := fun x hx => Int.tdiv_eq_ediv_of_nonneg hx
  have ng : ∀ x : Int, x.tdiv d = -((-x).tdiv d) := fun x => by rw [Int.neg_tdiv, Int.neg_neg]
  rcases Int.le_total 0 a with ha | ha
  · rw [nn a ha, nn b (by omega)]
    exact Int.ediv_le_ediv hd h
  · rcases Int.le_total 0 b with hb | hb
    · have h1 := Int.tdiv_nonneg hb (Int.le_of_lt hd)
      have h2 := Int.tdiv_nonneg (show 0 ≤ -a by omega) (Int.le_of_lt hd)
      rw [ng a]; omega
    · rw [ng a, ng b, nn (-a) (by omega), nn (-b) (by omega)]
      have := Int.ediv_le_ediv hd (show -b ≤ -a by omega)
      omega
theorem td_abs {a d : Int} {m n : Nat} (hd : (n : Int) ≤ d) (hn : 0 < n) (ha : a.natAbs ≤ m) : (a.tdiv d).natAbs ≤ m / n := by
  rw [Int.natAbs_tdiv]
  show a.natAbs / d.natAbs ≤ m / n
  exact Nat.div_le_div ha (by omega) (by omega)
def gdA (R : Nat → Int32) (i : Nat) : Prop := (∃ a : Nat, 100 ≤ a ∧ a ≤ 500 ∧ R (8 + 10 * i) = nI a) ∧ (∃ a : Nat, 100 ≤ a ∧ a ≤ 400 ∧ R (9 + 10 * i) = nI a) ∧ (∃ a : Nat, a ≤ 600 ∧ R (10 + 10 * i) = nI (4700 + a)) ∧ (R (11 + 10 * i) = 0 ∨ R (11 + 10 * i) = 1) ∧ (R (12 + 10 * i) = 0 ∨ R (12 + 10 * i) = 1) ∧ (R (12 + 10 * i) = 0 → R (14 + 10 * i) = 0 ∧ R (15 + 10 * i) = 0)
def gdF (R : Nat → Int32) (i : Nat) : Prop := (∃ a : Nat, a ≤ 300 ∧ R (38 + 3 * i) = nI a) ∧ (R (39 + 3 * i) = 0 ∨ R (39 + 3 * i) = 1)
def gd (R : Nat → Int32) : Prop := (∀ i, i < 3 → gdA R i) ∧ (∀ i, i < 4 → gdF R i) ∧ lim R ∧ R 5 = wsum R 17 10 3 ∧ R 6 = wsum R 40 3 4
theorem gd_bz {R : Nat → Int32} (h : gd R) : bz R := ⟨fun i hi => ⟨(h.1 i hi).2.2.2.1, (h.1 i hi).2.2.2.2.1⟩, fun i hi => (h.2.1 i hi).2⟩
theorem gd_opz {R : Nat → Int32} (h : gd R) : opz R := fun i hi => (h.1 i hi).2.2.2.2.2
theorem gd_tz {R : Nat → Int32} (h : gd R) : tz R := ⟨gd_bz h, gd_opz h, h.2.2.1⟩
theorem gv_int {R : Nat → Int32} {i : Nat} (h : gdA R i) : (∀ f, gv R i f = 0) ∨ ∃ s r d : Nat, s ≤ 600 ∧ r ≤ 500 ∧ 100 ≤ d ∧ d ≤ 400 ∧ ∀ k : Nat, k ≤ 600 → (gv R i (nI (4700 + k))).toInt = (((s : Int) - k) * r).tdiv d := by
  obtain ⟨⟨r, hr1, hr2, er⟩, ⟨d, hd1, hd2, ed⟩, ⟨s, hs, es⟩, -, -, -⟩ := h
  by_cases q : R (12 + 10 * i) = 0
  · exact Or.inl (fun f => by rw [gv, if_pos q])
  · refine Or.inr ⟨s, r, d, hs, hr2, hd1, hd2, fun k hk => ?_⟩
    have e1 : (nI (4700 + s) - nI (4700 + k)).toInt = (s : Int) - k := by
      rw [pk_sub_toInt (by omega) (by omega)]; omega
    have hb : (((s : Int) - k) * r).natAbs ≤ 300000 := by
      rw [Int.natAbs_mul, Int.natAbs_natCast]
      exact Nat.le_trans (Nat.mul_le_mul (show ((s : Int) - k).natAbs ≤ 600 by omega) hr2) (by decide)
    have e2 : ((nI (4700 + s) - nI (4700 + k)) * nI r).toInt = ((s : Int) - k) * r := by
      rw [Int32.toInt_mul, e1, nI_toInt (by omega), Int.bmod_eq_of_le (by omega) (by omega)]
    have ne : nI d ≠ -1 := by
      intro e
      have := congrArg Int32.toInt e
      rw [nI_toInt (by omega), show (-1 : Int32).toInt = -1 by decide] at this
      omega
    rw [gv, if_neg q, er, ed, es, Int32.toInt_div_of_ne_right _ _ ne, e2, nI_toInt (by omega)]
theorem gv_b {R : Nat → Int32} {i k : Nat} (h : gdA R i) (hk : k ≤ 600) : -3000 ≤ (gv R i (nI (4700 + k))).toInt ∧ (gv R i (nI (4700 + k))).toInt ≤ 3000 := by
  rcases gv_int h with q | ⟨s, r, d, hs, hr, hd1, hd2, e⟩
  · rw [q]; decide
  · rw [e k hk]
    have hb : (((s : Int) - k) * r).natAbs ≤ 300000 := by
      rw [Int.natAbs_mul, Int.natAbs_natCast]
      exact Nat.le_trans (Nat.mul_le_mul (show ((s : Int) - k).natAbs ≤ 600 by omega) hr) (by decide)
    have := td_abs (a := ((s : Int) - k) * r) (d := (d : Int)) (m := 300000) (n := 100) (by omega) (by decide) hb
    omega
theorem gv_m {R : Nat → Int32} {i j k : Nat} (h : gdA R i) (hjk : j ≤ k) (hk : k ≤ 600) : (gv R i (nI (4700 + k))).toInt ≤ (gv R i (nI (4700 + j))).toInt := by
  rcases gv_int h with q | ⟨s, r, d, hs, hr, hd1, hd2, e⟩
  · rw [q, q]; exact Int.le_refl _
  · rw [e k hk, e j (by omega)]
    exact td_mono (by omega) (Int.mul_le_mul_of_nonneg_right (by omega) (by omega))
theorem gv_0 {R : Nat → Int32} {i : Nat} (h : gdA R i) : 0 ≤ (gv R i (nI (4700 + 0))).toInt := by
  rcases gv_int h with q | ⟨s, r, d, hs, hr, hd1, hd2, e⟩
  · rw [q]; decide
  · rw [e 0 (by omega)]
    exact Int.tdiv_nonneg (Int.mul_nonneg (by omega) (by omega)) (by omega)
theorem tot_int {R : Nat → Int32} {k : Nat} (h : gd R) (hk : k ≤ 600) : (tot R (nI (4700 + k))).toInt = (gv R 0 (nI (4700 + k))).toInt + (gv R 1 (nI (4700 + k))).toInt + (gv R 2 (nI (4700 + k))).toInt ∧ -9000 ≤ (tot R (nI (4700 + k))).toInt ∧ (tot R (nI (4700 + k))).toInt ≤ 9000 := by
  have h0 := gv_b (h.1 0 (by omega)) hk; have h1 := gv_b (h.1 1 (by omega)) hk; have h2 := gv_b (h.1 2 (by omega)) hk
  have e : (tot R (nI (4700 + k))).toInt = (gv R 0 (nI (4700 + k))).toInt + (gv R 1 (nI (4700 + k))).toInt + (gv R 2 (nI (4700 + k))).toInt := by
    rw [← tot3, Int32.toInt_add, Int32.toInt_add, Int.bmod_eq_of_le (n := (gv R 0 (nI (4700 + k))).toInt + (gv R 1 (nI (4700 + k))).toInt) (by omega) (by omega), Int.bmod_eq_of_le (by omega) (by omega)]
  exact ⟨e, by omega, by omega⟩
theorem lsum_nI {R : Nat → Int32} (h : gd R) : ∀ n, n ≤ 4 → ∃ a : Nat, a ≤ 300 * n ∧ lsum R n = nI a := by
  intro n
  induction n with
  | zero => exact fun _ => ⟨0, by omega, rfl⟩
  | succ n ih =>
    intro hn
    obtain ⟨a, ha, e⟩ := ih (by omega)
    obtain ⟨b, hb, e2⟩ := (h.2.1 n (by omega)).1
    rw [lsum]
    split
    · exact ⟨a, by omega, e⟩
    · exact ⟨a + b, by omega, by rw [e, e2, nI_add]⟩
theorem ld_nI {R : Nat → Int32} (h : gd R) : ∃ a : Nat, a ≤ 1200 ∧ ld R = nI a := by
  rw [ld]
  split
  · exact ⟨0, by omega, rfl⟩
  · exact lsum_nI h 4 (Nat.le_refl _)
theorem alv_0 {R : Nat → Int32} (h : alv R = 0) : R 12 = 0 ∧ R 22 = 0 ∧ R 32 = 0 := by
  rcases Classical.em (R 12 = 0 ∧ R 22 = 0 ∧ R 32 = 0) with q | q
  · exact q
  · rw [alv, if_neg q] at h; exact absurd h (by decide)
theorem tot_0 {R : Nat → Int32} {f : Int32} (h : alv R = 0) : tot R f = 0 := by
  obtain ⟨a, b, c⟩ := alv_0 h
  rw [← tot3, gv, gv, gv, if_pos a, if_pos b, if_pos c]; decide
theorem fq_ex {R : Nat → Int32} (h : ¬ alv R = 0) : ∃ k : Nat, k ≤ 600 ∧ fq R = nI (4700 + k) ∧ (k = 0 ∨ fok R k = true) := by
  refine ⟨fsb (fok R) 600, fsb_le _ _, by rw [fq, if_neg h], ?_⟩
  have : ∀ n, fsb (fok R) n = 0 ∨ fok R (fsb (fok R) n) = true := by
    intro n
    induction n with
    | zero => exact Or.inl rfl
    | succ n ih =>
      rw [fsb]
      split
      · rename_i q; exact Or.inr q
      · exact ih
  exact this 600
theorem gd_low {R : Nat → Int32} (h : gd R) : -2147483647 ≤ ld R - tot R (fq R) := by
  by_cases q : alv R = 0
  · rw [tot_0 q, ld, if_pos q]; decide
  · obtain ⟨k, hk, ek, -⟩ := fq_ex q
    obtain ⟨a, ha, ea⟩ := ld_nI h
    obtain ⟨-, h1, h2⟩ := tot_int h hk
    rw [ek, Int32.le_iff_toInt_le, Int32.toInt_sub, ea, nI_toInt (by omega), Int.bmod_eq_of_le (by omega) (by omega), show (-2147483647 : Int32).toInt = -2147483647 by decide]
    omega
theorem gd_wz {R : Nat → Int32} (h : gd R) : wz R := by
  refine ⟨gd_bz h, fun i hi e => ?_, gd_low h⟩
  obtain ⟨a, ha, hb, q⟩ := (h.1 i hi).2.1
  rw [q] at e
  have := congrArg Int32.toInt e
  rw [nI_toInt (by omega), show (0 : Int32).toInt = 0 by decide] at this
  omega
theorem gd_mono {R : Nat → Int32} (h : gd R) : mono R := by
  intro j k hjk hk e
  simp only [fok, decide_eq_true_eq] at e ⊢
  refine Int32.le_trans e ?_
  rw [Int32.le_iff_toInt_le, (tot_int h hk).1, (tot_int h (Nat.le_trans hjk hk)).1]
  have h0 := gv_m (h.1 0 (by omega)) hjk hk; have h1 := gv_m (h.1 1 (by omega)) hjk hk; have h2 := gv_m (h.1 2 (by omega)) hjk hk
  omega
theorem gdA_c {R R' : Nat → Int32} {i : Nat} (h : gdA R i) (e : ∀ w, (w = 8 ∨ w = 9 ∨ w = 10 ∨ w = 11 ∨ w = 12 ∨ w = 14 ∨ w = 15) → R' (w + 10 * i) = R (w + 10 * i)) : gdA R' i := by
  unfold gdA
  rw [e 8 (by omega), e 9 (by omega), e 10 (by omega), e 11 (by omega), e 12 (by omega), e 14 (by omega), e 15 (by omega)]
  exact h
theorem gdF_c {R R' : Nat → Int32} {i : Nat} (h : gdF R i) (e : ∀ w, (w = 38 ∨ w = 39) → R' (w + 3 * i) = R (w + 3 * i)) : gdF R' i := by
  unfold gdF
  rw [e 38 (by omega), e 39 (by omega)]
  exact h
theorem wsum_c {R R' : Nat → Int32} {w d : Nat} : ∀ n, (∀ k, k < n → R' (w + d * k) = R (w + d * k)) → wsum R' w d n = wsum R w d n := by
  intro n
  induction n with
  | zero => exact fun _ => rfl
  | succ n ih =>
    intro h
    rw [wsum, wsum, ih (fun k hk => h k (by omega)), h n (by omega)]
theorem i_sw (a b c : Int32) : a + b + c = a + c + b := by ac_rfl
theorem wsum_u {R : Nat → Int32} {w d k : Nat} (hd : 0 < d) {y : Int32} (hy : y = R (w + d * k) + 1) : ∀ n, k < n → wsum (upd R (w + d * k) y) w d n = wsum R w d n + 1 := by
  subst hy
  intro n
  induction n with
  | zero => intro h; omega
  | succ n ih =>
    intro h
    rw [wsum, wsum]
    by_cases q : k = n
    · subst q
      rw [upd_eq, wsum_c k (fun j hj => upd_ne (fun e => by
        have := Nat.eq_of_mul_eq_mul_left hd (show d * j = d * k by omega)
        omega)), Int32.add_assoc]
    · rw [ih (by omega), upd_ne (fun e => q (Nat.eq_of_mul_eq_mul_left hd (show d * k = d * n by omega))), i_sw]
theorem gd_free {R R' : Nat → Int32} (h : gd R) (e : ∀ k, k ≠ 2 → k ≠ 3 → k ≠ 4 → k ≠ 7 → (∀ i, i < 3 → k ≠ 13 + 10 * i ∧ k ≠ 16 + 10 * i) → R' k = R k) : gd R' := by
  have e' : ∀ k, (k = 0 ∨ k = 1 ∨ k = 5 ∨ k = 6 ∨ 38 ≤ k) → R' k = R k := fun k hk => e k (by omega) (by omega) (by omega) (by omega) (fun i hi => by omega)
  refine ⟨fun i hi => gdA_c (h.1 i hi) (fun w hw => e _ (by omega) (by omega) (by omega) (by omega) (fun j hj => by omega)), fun i hi => gdF_c (h.2.1 i hi) (fun w hw => e' _ (by omega)), ?_, ?_, ?_⟩
  · rw [lim, e' 0 (by omega), e' 1 (by omega)]; exact h.2.2.1
  · rw [e' 5 (by omega), wsum_c 3 (fun k hk => e _ (by omega) (by omega) (by omega) (by omega) (fun j hj => by omega))]; exact h.2.2.2.1
  · rw [e' 6 (by omega), wsum_c 4 (fun k hk => e' _ (by omega))]; exact h.2.2.2.2
/-- behind a change of set j alone, not of its trips -/
theorem gd_A {R R' : Nat → Int32} {j : Nat} (h : gd R) (hj : j < 3) (e : ∀ k, (k < 8 + 10 * j ∨ 18 + 10 * j ≤ k) → R' k = R k) (h7 : R' (17 + 10 * j) = R (17 + 10 * j)) (ha : gdA R' j) : gd R' := by
  refine ⟨fun i hi => ?_, fun i hi => gdF_c (h.2.1 i hi) (fun w hw => e _ (by omega)), ?_, ?_, ?_⟩
  · by_cases q : i = j
    · rw [q]; exact ha
    · exact gdA_c (h.1 i hi) (fun w hw => e _ (by omega))
  · rw [lim, e 0 (by omega), e 1 (by omega)]; exact h.2.2.1
  · rw [e 5 (by omega), wsum_c 3 (fun k hk => ?_)]; exact h.2.2.2.1
    by_cases q : k = j
    · rw [q]; exact h7
    · exact e _ (by omega)
  · rw [e 6 (by omega), wsum_c 4 (fun k hk => e _ (by omega))]; exact h.2.2.2.2
theorem gd_F {R R' : Nat → Int32} {j : Nat} (h : gd R) (hj : j < 4) (e : ∀ k, (k < 38 + 3 * j ∨ 40 + 3 * j ≤ k) → R' k = R k) (hf : gdF R' j) : gd R' := by
  refine ⟨fun i hi => gdA_c (h.1 i hi) (fun w hw => e _ (by omega)), fun i hi => ?_, ?_, ?_, ?_⟩
  · by_cases q : i = j
    · rw [q]; exact hf
    · exact gdF_c (h.2.1 i hi) (fun w hw => e _ (by omega))
  · rw [lim, e 0 (by omega), e 1 (by omega)]; exact h.2.2.1
  · rw [e 5 (by omega), wsum_c 3 (fun k hk => e _ (by omega))]; exact h.2.2.2.1
  · rw [e 6 (by omega), wsum_c 4 (fun k hk => e _ (by omega))]; exact h.2.2.2.2
theorem gd_lo {R : Nat → Int32} {k : Nat} {x : Int32} (h : gd R) (hk : k = 2 ∨ k = 3 ∨ k = 4 ∨ k = 7) : gd (upd R k x) := gd_free h (fun j a b c d _ => upd_ne (by omega))
theorem gd_set {R : Nat → Int32} {k : Nat} {x : Int32} (h : gd R) (hk : k < 2) (hx : 1 ≤ x) : gd (upd R k x) := by
  refine ⟨fun i hi => gdA_c (h.1 i hi) (fun w hw => upd_ne (by omega)), fun i hi => gdF_c (h.2.1 i hi) (fun w hw => upd_ne (by omega)), ?_, ?_, ?_⟩
  · rcases (show k = 0 ∨ k = 1 by omega) with rfl | rfl
    · rw [lim, upd_eq, upd_ne (by omega)]; exact ⟨hx, h.2.2.1.2⟩
    · rw [lim, upd_eq, upd_ne (by omega)]; exact ⟨h.2.2.1.1, hx⟩
  · rw [upd_ne (by omega), wsum_c 3 (fun k hk => upd_ne (by omega))]; exact h.2.2.2.1
  · rw [upd_ne (by omega), wsum_c 4 (fun k hk => upd_ne (by omega))]; exact h.2.2.2.2
theorem gd_usp {R : Nat → Int32} {j a : Nat} (h : gd R) (hj : j < 3) (ha : a ≤ 600) : gd (usp R j (nI (4700 + a))) := by
  refine gd_A h hj (fun k hk => upd_ne (by omega)) (upd_ne (by omega)) ?_
  have g := h.1 j hj
  refine ⟨?_, ?_, ⟨a, ha, upd_eq⟩, ?_, ?_, ?_⟩
  · rw [usp, upd_ne (by omega)]; exact g.1
  · rw [usp, upd_ne (by omega)]; exact g.2.1
  · rw [usp, upd_ne (by omega)]; exact g.2.2.2.1
  · rw [usp, upd_ne (by omega)]; exact g.2.2.2.2.1
  · rw [usp, upd_ne (by omega), upd_ne (by omega), upd_ne (by omega)]; exact g.2.2.2.2.2
theorem gd_bld {R : Nat → Int32} {j r d : Nat} (h : gd R) (hj : j < 3) (hr1 : 100 ≤ r) (hr2 : r ≤ 500) (hd1 : 100 ≤ d) (hd2 : d ≤ 400) : gd (upd (upd R (8 + 10 * j) (nI r)) (9 + 10 * j) (nI d)) := by
  have e : ∀ k, k ≠ 8 + 10 * j → k ≠ 9 + 10 * j → (upd (upd R (8 + 10 * j) (nI r)) (9 + 10 * j) (nI d)) k = R k := fun k h1 h2 => by rw [upd_ne h2, upd_ne h1]
  refine gd_A h hj (fun k hk => e k (by omega) (by omega)) (e _ (by omega) (by omega)) ?_
  have g := h.1 j hj
  refine ⟨⟨r, hr1, hr2, by rw [upd_ne (by omega), upd_eq]⟩, ⟨d, hd1, hd2, upd_eq⟩, ?_, ?_, ?_, ?_⟩
  · rw [e _ (by omega) (by omega)]; exact g.2.2.1
  · rw [e _ (by omega) (by omega)]; exact g.2.2.2.1
  · rw [e _ (by omega) (by omega)]; exact g.2.2.2.2.1
  · rw [e _ (by omega) (by omega), e _ (by omega) (by omega), e _ (by omega) (by omega)]; exact g.2.2.2.2.2
theorem rst_14 {R : Nat → Int32} {j : Nat} : rst R j (14 + 10 * j) = 0 := by rw [rst, upd_ne (by omega), upd_eq]
theorem rst_15 {R : Nat → Int32} {j : Nat} : rst R j (15 + 10 * j) = 0 := by rw [rst, upd_eq]
theorem gd_sw {R : Nat → Int32} {j k : Nat} {x : Int32} (h : gd R) (hj : j < 3) (hk : k = 11 ∨ k = 12) (hx : x = 0 ∨ x = 1) : gd (rst (upd R (k + 10 * j) x) j) := by
  have e : ∀ q, q ≠ k + 10 * j → q ≠ 13 + 10 * j → q ≠ 14 + 10 * j → q ≠ 15 + 10 * j → (rst (upd R (k + 10 * j) x) j) q = R q := fun q h1 h2 h3 h4 => by rw [rst_at ⟨h2, h3, h4⟩, upd_ne h1]
  have e2 : (rst (upd R (k + 10 * j) x) j) (k + 10 * j) = x := by rw [rst_at (by omega), upd_eq]
  refine gd_A h hj (fun q hq => e q (by omega) (by omega) (by omega) (by omega)) (e _ (by omega) (by omega) (by omega) (by omega)) ?_
  have g := h.1 j hj
  refine ⟨?_, ?_, ?_, ?_, ?_, fun _ => ⟨rst_14, rst_15⟩⟩
  · rw [e _ (by omega) (by omega) (by omega) (by omega)]; exact g.1
  · rw [e _ (by omega) (by omega) (by omega) (by omega)]; exact g.2.1
  · rw [e _ (by omega) (by omega) (by omega) (by omega)]; exact g.2.2.1
  · by_cases q : k = 11
    · rw [← q, e2]; exact hx
    · rw [e _ (by omega) (by omega) (by omega) (by omega)]; exact g.2.2.2.1
  · by_cases q : k = 12
    · rw [← q, e2]; exact hx
    · rw [e _ (by omega) (by omega) (by omega) (by omega)]; exact g.2.2.2.2.1
theorem gd_load {R : Nat → Int32} {j a : Nat} (h : gd R) (hj : j < 4) (ha : a ≤ 300) : gd (upd R (38 + 3 * j) (nI a)) := by
  refine gd_F h hj (fun k hk => upd_ne (by omega)) ⟨⟨a, ha, upd_eq⟩, ?_⟩
  rw [upd_ne (by omega)]; exact (h.2.1 j hj).2
theorem gd_feed {R : Nat → Int32} {j : Nat} {x : Int32} (h : gd R) (hj : j < 4) (hx : x = 0 ∨ x = 1) : gd (upd R (39 + 3 * j) x) := by
  refine gd_F h hj (fun k hk => upd_ne (by omega)) ⟨?_, ?_⟩
  · rw [upd_ne (by omega)]; exact (h.2.1 j hj).1
  · rw [upd_eq]; exact hx
theorem dtk_op {Q : Nat → Int32} {i k : Nat} {w f : Int32} (h : Q (12 + 10 * i) = 0) (hk : k = 14 ∨ k = 15) : dtk Q i w f (k + 10 * i) = Q (k + 10 * i) := by
  unfold dtk
  rw [if_pos h]
  split
  · rw [upd_ne (by omega)]
  · split
    · rw [upd_ne (by omega)]
    · rw [upd_ne (by omega), upd_ne (by omega)]
theorem gd_dtk {Q : Nat → Int32} {i : Nat} {w f : Int32} (h : gd Q) (hi : i < 3) : gd (dtk Q i w f) := by
  refine gd_A h hi (fun k hk => dtk_ak (by omega)) (dtk_ak (by omega)) ?_
  have g := h.1 i hi
  refine ⟨?_, ?_, ?_, ?_, ?_, ?_⟩
  · rw [dtk_ak (by omega)]; exact g.1
  · rw [dtk_ak (by omega)]; exact g.2.1
  · rw [dtk_ak (by omega)]; exact g.2.2.1
  · rw [dtk_ak (by omega)]; exact g.2.2.2.1
  · rw [dtk_ak (by omega)]; exact g.2.2.2.2.1
  · rw [dtk_ak (by omega)]
    intro q
    rw [dtk_op q (by omega), dtk_op q (by omega)]
    exact g.2.2.2.2.2 q
theorem gd_tbs {R : Nat → Int32} (h : gd R) : ∀ n, n ≤ 3 → gd (tbs R n) := by
  intro n
  induction n with
  | zero => exact fun _ => gd_lo h (by omega)
  | succ n ih => exact fun hn => gd_dtk (ih (by omega)) (by omega)
theorem gd_shd {Q : Nat → Int32} (h : gd Q) : gd (shd Q) := by
  unfold shd
  split
  · exact h
  rename_i q
  obtain ⟨k, hk⟩ : ∃ k, shk Q 4 = k + 1 := ⟨shk Q 4 - 1, by omega⟩
  have hk4 := shk_le Q 4
  rw [hk, Nat.add_sub_cancel]
  have e : ∀ j, j ≠ 39 + 3 * k → j ≠ 40 + 3 * k → j ≠ 6 → (upd (sh1 Q k) 6 (Q 6 + 1)) j = Q j := fun j h1 h2 h3 => by rw [upd_ne h3, sh1, upd_ne h2, upd_ne h1]
  refine ⟨fun i hi => gdA_c (h.1 i hi) (fun w hw => e _ (by omega) (by omega) (by omega)), fun i hi => ?_, ?_, ?_, ?_⟩
  · by_cases q2 : i = k
    · subst q2
      refine ⟨?_, ?_⟩
      · rw [e _ (by omega) (by omega) (by omega)]; exact (h.2.1 i hi).1
      · exact Or.inl (by rw [upd_ne (by omega), sh1, upd_ne (by omega), upd_eq])
    · exact gdF_c (h.2.1 i hi) (fun w hw => e _ (by omega) (by omega) (by omega))
  · rw [lim, e 0 (by omega) (by omega) (by omega), e 1 (by omega) (by omega) (by omega)]; exact h.2.2.1
  · rw [e 5 (by omega) (by omega) (by omega), wsum_c 3 (fun j hj => e _ (by omega) (by omega) (by omega))]; exact h.2.2.2.1
  · rw [upd_eq, wsum_c (R := sh1 Q k) 4 (fun j hj => upd_ne (by omega)), sh1, wsum_u (by decide) (by rw [upd_ne (by omega)]) 4 (by omega), wsum_c 4 (fun j hj => upd_ne (by omega)), h.2.2.2.2]
theorem gd_tD {R : Nat → Int32} (h : gd R) : gd (tD R) := by
  refine gd_lo ?_ (by omega)
  unfold tC
  split
  · exact gd_tbs h 3 (Nat.le_refl _)
  · exact gd_shd (gd_tbs h 3 (Nat.le_refl _))
/-- all but the trips' sum -/
def gdp (R : Nat → Int32) : Prop := (∀ i, i < 3 → gdA R i) ∧ (∀ i, i < 4 → gdF R i) ∧ lim R ∧ R 6 = wsum R 40 3 4
theorem trd_12 {R : Nat → Int32} {i : Nat} : trd R i (12 + 10 * i) = 0 := by rw [trd, upd_ne (by omega), rst_at (by omega), upd_eq]
theorem trd_14 {R : Nat → Int32} {i : Nat} : trd R i (14 + 10 * i) = 0 := by rw [trd, upd_ne (by omega), rst_14]
theorem trd_15 {R : Nat → Int32} {i : Nat} : trd R i (15 + 10 * i) = 0 := by rw [trd, upd_ne (by omega), rst_15]
theorem gdp_trd {R : Nat → Int32} {i : Nat} (h : gdp R) (hi : i < 3) : gdp (trd R i) ∧ wsum (trd R i) 17 10 3 = wsum R 17 10 3 + 1 := by
  refine ⟨⟨fun j hj => ?_, fun j hj => gdF_c (h.2.1 j hj) (fun w hw => trd_at (by omega)), ?_, ?_⟩, ?_⟩
  · by_cases q : j = i
    · subst q
      have g := h.1 j hj
      refine ⟨?_, ?_, ?_, ?_, Or.inl trd_12, fun _ => ⟨trd_14, trd_15⟩⟩
      · rw [trd_at (by omega)]; exact g.1
      · rw [trd_at (by omega)]; exact g.2.1
      · rw [trd_at (by omega)]; exact g.2.2.1
      · rw [trd_at (by omega)]; exact g.2.2.2.1
    · exact gdA_c (h.1 j hj) (fun w hw => trd_at (by omega))
  · rw [lim, trd_at (by omega), trd_at (by omega)]; exact h.2.2.1
  · rw [trd_at (by omega), wsum_c 4 (fun k hk => trd_at (by omega))]; exact h.2.2.2
  · rw [trd, wsum_u (by decide) (by rw [rst_at (by omega), upd_ne (by omega)]) 3 hi, wsum_c (R := R) 3 (fun k hk => by rw [rst_at (by omega), upd_ne (by omega)])]
theorem gdp_tr1 {R : Nat → Int32} {i : Nat} (h : gdp R) (hi : i < 3) : gdp (tr1 R i) ∧ wsum (tr1 R i) 17 10 3 = wsum R 17 10 3 + trc R i := by
  have t := gdp_trd h hi
  unfold tr1 trc
  split
  · exact t
  · split
    · exact ⟨h, by rw [Int32.add_zero]⟩
    · exact t
theorem gdp_trs {R : Nat → Int32} (h : gdp R) : ∀ n, n ≤ 3 → gdp (trs R n) ∧ wsum (trs R n) 17 10 3 = wsum R 17 10 3 + trm R n := by
  intro n
  induction n with
  | zero => exact fun _ => ⟨h, by rw [trm, Int32.add_zero]; rfl⟩
  | succ n ih =>
    intro hn
    have a := ih (by omega)
    have b := gdp_tr1 (i := n) a.1 (by omega)
    exact ⟨b.1, by rw [trm, ← Int32.add_assoc, ← a.2]; exact b.2⟩
theorem gd_tk {R : Nat → Int32} (h : gd R) : gd (tk R) := by
  have d := gd_tD h
  have t := gdp_trs (R := tD R) ⟨d.1, d.2.1, d.2.2.1, d.2.2.2.2⟩ 3 (Nat.le_refl _)
  unfold tk
  refine ⟨fun i hi => gdA_c (t.1.1 i hi) (fun w hw => upd_ne (by omega)), fun i hi => gdF_c (t.1.2.1 i hi) (fun w hw => upd_ne (by omega)), ?_, ?_, ?_⟩
  · rw [lim, upd_ne (by omega), upd_ne (by omega)]; exact t.1.2.2.1
  · rw [upd_eq, wsum_c (R := trs (tD R) 3) 3 (fun k hk => upd_ne (by omega)), t.2, ← d.2.2.2.1, tD_5]
  · rw [upd_ne (by omega), wsum_c (R := trs (tD R) 3) 4 (fun k hk => upd_ne (by omega))]; exact t.1.2.2.2
theorem gd_pt {R : Nat → Int32} (h : gd R) : ∀ n, gd (pt R n) := by
  intro n
  induction n with
  | zero => exact h
  | succ n ih => exact gd_tk ih
theorem gd_htk {R : Nat → Int32} (h : gd R) (i : Nat) : wz (pt R i) ∧ tz (tD (pt R i)) := ⟨gd_wz (gd_pt h i), gd_tz (gd_tD (gd_pt h i))⟩

