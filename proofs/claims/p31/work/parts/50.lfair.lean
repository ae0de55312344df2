/-! the fair speed from above; closing and tripping, looked for in one go -/
theorem rat3 {R : Nat → Int32} (h : bz R) : R (12 + 10 * 0) * R (8 + 10 * 0) + R (12 + 10 * 1) * R (8 + 10 * 1) + R (12 + 10 * 2) * R (8 + 10 * 2) = rat R 3 := by
  have e0 := rat_s (R := R) (i := 0) h (by omega)
  have e1 := rat_s (R := R) (i := 1) h (by omega)
  have e2 := rat_s (R := R) (i := 2) h (by omega)
  rw [show rat R 0 = 0 from rfl, Int32.zero_add] at e0
  rw [← e2, ← e1, ← e0]
def bdI (F : Nat → Int32) (m : Nat) (bs ls : Int32) : Prop := (m = 601 ∧ bs = -1) ∨ ∃ b, m ≤ b ∧ b ≤ 600 ∧ bs = nI (4700 + b) ∧ ls = F b ∧ (∀ k, m ≤ k → k ≤ 600 → F b ≤ F k) ∧ ∀ k, m ≤ k → k < b → F b < F k
theorem bd_no {b : Nat} (hb : b ≤ 600) : ¬ nI (4700 + b) < 0 := nI_pos (by omega)
theorem bd_1 {F : Nat → Int32} {m : Nat} {bs ls : Int32} (h : bdI F (m + 1) bs ls) (c : bs < 0) : bdI F m (nI (4700 + m)) (F m) := by
  rcases h with ⟨h1, -⟩ | ⟨b, h1, h2, rfl, -⟩
  · obtain rfl : m = 600 := by omega
    refine Or.inr ⟨600, Nat.le_refl _, Nat.le_refl _, rfl, rfl, fun k h2 h3 => ?_, fun k h2 h3 => by omega⟩
    rw [show k = 600 by omega]; exact Int32.le_refl _
  · exact absurd c (bd_no h2)
theorem bd_2 {F : Nat → Int32} {m : Nat} {bs ls : Int32} (h : bdI F (m + 1) bs ls) (c : ¬ bs < 0) (c2 : ls < F m) : bdI F m bs ls := by
  rcases h with ⟨h1, rfl⟩ | ⟨b, h1, h2, rfl, rfl, h3, h4⟩
  · exact absurd (by decide) c
  · refine Or.inr ⟨b, by omega, h2, rfl, rfl, fun k g1 g2 => ?_, fun k g1 g2 => ?_⟩
    · by_cases q : k = m
      · rw [q]; exact Int32.le_of_lt c2
      · exact h3 k (by omega) g2
    · by_cases q : k = m
      · rw [q]; exact c2
      · exact h4 k (by omega) g2
theorem bd_3 {F : Nat → Int32} {m : Nat} {bs ls : Int32} (h : bdI F (m + 1) bs ls) (hm : m ≤ 600) (c : ¬ bs < 0) (c2 : F m ≤ ls) : bdI F m (nI (4700 + m)) (F m) := by
  rcases h with ⟨h1, rfl⟩ | ⟨b, h1, h2, rfl, rfl, h3, h4⟩
  · exact absurd (by decide) c
  · refine Or.inr ⟨m, Nat.le_refl _, hm, rfl, rfl, fun k g1 g2 => ?_, fun k g1 g2 => by omega⟩
    by_cases q : k = m
    · rw [q]; exact Int32.le_refl _
    · exact Int32.le_trans c2 (h3 k (by omega) g2)
theorem fbl_min {R : Nat → Int32} {j : Nat} {sh : Int32} : ∀ n, n ≤ 600 → ∃ b, b ≤ n ∧ fbl R j sh (n + 1) = (nI (4700 + b), fdf R j sh b) ∧ (∀ k, k ≤ n → fdf R j sh b ≤ fdf R j sh k) ∧ ∀ k, k < b → fdf R j sh b < fdf R j sh k := by
  intro n
  induction n with
  | zero =>
    intro _
    refine ⟨0, Nat.le_refl _, ?_, fun k hk => by rw [show k = 0 by omega]; exact Int32.le_refl _, fun k hk => by omega⟩
    rw [fbl, if_pos (show (fbl R j sh 0).1 = -1 from rfl)]
  | succ n ih =>
    intro hn
    obtain ⟨b, h1, h2, h3, h4⟩ := ih (by omega)
    have hne : ¬ (nI (4700 + b) = -1) := fun e => bd_no (b := b) (by omega) (by rw [e]; decide)
    rw [fbl, h2, if_neg hne]
    by_cases q : fdf R j sh (n + 1) < fdf R j sh b
    · rw [if_pos q]
      refine ⟨n + 1, Nat.le_refl _, rfl, fun k hk => ?_, fun k hk => Int32.lt_of_lt_of_le q (h3 k (by omega))⟩
      by_cases w : k = n + 1
      · rw [w]; exact Int32.le_refl _
      · exact Int32.le_of_lt (Int32.lt_of_lt_of_le q (h3 k (by omega)))
    · rw [if_neg q]
      refine ⟨b, by omega, rfl, fun k hk => ?_, h4⟩
      by_cases w : k = n + 1
      · rw [w]; exact Int32.not_lt.mp q
      · exact h3 k (by omega)
theorem bd_e {R : Nat → Int32} {j : Nat} {sh bs ls : Int32} (h : bdI (fdf R j sh) 0 bs ls) : (fbl R j sh 601).1 = bs := by
  rcases h with ⟨h1, -⟩ | ⟨b, -, h2, rfl, -, h3, h4⟩
  · omega
  · obtain ⟨c, g1, g2, g3, g4⟩ := fbl_min (R := R) (j := j) (sh := sh) 600 (Nat.le_refl _)
    rw [g2]
    show nI (4700 + c) = nI (4700 + b)
    rcases Nat.lt_trichotomy b c with q | q | q
    · exact absurd (h3 c (Nat.zero_le _) g1) (Int32.not_le.mpr (g4 b q))
    · rw [q]
    · exact absurd (g3 b h2) (Int32.not_le.mpr (h4 c (Nat.zero_le _) q))
theorem fair_e {R : Nat → Int32} {j : Nat} {bs ls : Int32} (hg : gd R) (hj : j < 3) (h : ¬ R (12 + 10 * j) = 0) (hb : bdI (fdf R j (ld R * R (8 + 10 * j) / rat R 3)) 0 bs ls) : fair R j = bs := by
  rw [fair, if_neg h, if_neg (rat_0 hg hj h)]
  exact bd_e hb
theorem fdf_e {R : Nat → Int32} {j k : Nat} {sh : Int32} (hj : j < 3) : ab ((pwv (usp R j (nI (4700 + k)))) j - sh) = fdf R j sh k := by
  rw [pwv_i hj]; rfl
theorem sp_ok {a : Nat} (h : a ≤ 600) : ¬ nI (4700 + a) < 4700 ∧ ¬ 5300 < nI (4700 + a) := ⟨nI_nlt (a := 4700 + a) (b := 4700) (by omega) (by omega), nI_nlt (a := 5300) (b := 4700 + a) (by omega) (by decide)⟩
/-! when it will close, when one trips -/
def clI (R : Nat → Int32) (j k : Nat) (cl : Int32) : Prop := (cl = -1 ∧ ∀ q, q < k → ¬ rsn (pt R q) j = 0) ∨ ∃ q, q < k ∧ cl = nI q ∧ rsn (pt R q) j = 0 ∧ ∀ r, r < q → ¬ rsn (pt R r) j = 0
theorem cl_a {R : Nat → Int32} {j k : Nat} {cl : Int32} (h : clI R j k cl) (c : 0 ≤ cl) : clI R j (k + 1) cl := by
  rcases h with ⟨rfl, -⟩ | ⟨q, h1, h2⟩
  · exact absurd c (by decide)
  · exact Or.inr ⟨q, by omega, h2⟩
theorem cl_b {R : Nat → Int32} {j k : Nat} {cl : Int32} (h : clI R j k cl) (hk : k ≤ 501) (c : cl < 0) (c2 : ¬ rsn (pt R k) j = 0) : clI R j (k + 1) cl := by
  rcases h with ⟨rfl, h1⟩ | ⟨q, h1, rfl, h2⟩
  · refine Or.inl ⟨rfl, fun q hq => ?_⟩
    by_cases w : q = k
    · rw [w]; exact c2
    · exact h1 q (by omega)
  · exact absurd c (nI_pos (by omega))
theorem cl_c {R : Nat → Int32} {j k : Nat} {cl : Int32} (h : clI R j k cl) (hk : k ≤ 501) (c : cl < 0) (c2 : rsn (pt R k) j = 0) : clI R j (k + 1) (nI k) := by
  rcases h with ⟨rfl, h1⟩ | ⟨q, h1, rfl, h2⟩
  · exact Or.inr ⟨k, by omega, rfl, c2, h1⟩
  · exact absurd c (nI_pos (by omega))
theorem cgo_no {R : Nat → Int32} {j : Nat} : ∀ (m i : Nat), (∀ q, i ≤ q → q < i + m → ¬ rsn (pt R q) j = 0) → cgo R j i m = -1 := by
  intro m
  induction m with
  | zero => intro i _; rfl
  | succ m ih =>
    intro i h
    rw [cgo, if_neg (h i (Nat.le_refl _) (by omega))]
    exact ih (i + 1) (fun q h1 h2 => h q (by omega) (by omega))
theorem cgo_at {R : Nat → Int32} {j k : Nat} (hk : rsn (pt R k) j = 0) : ∀ (m i : Nat), i ≤ k → k < i + m → (∀ q, i ≤ q → q < k → ¬ rsn (pt R q) j = 0) → cgo R j i m = nI k := by
  intro m
  induction m with
  | zero => intro i h1 h2; omega
  | succ m ih =>
    intro i h1 h2 h
    by_cases w : i = k
    · rw [w, cgo, if_pos hk]
    · rw [cgo, if_neg (h i (Nat.le_refl _) (by omega))]
      exact ih (i + 1) (by omega) (by omega) (fun q g1 g2 => h q (by omega) g2)
theorem cl_e {R : Nat → Int32} {j k : Nat} {cl : Int32} (hj : j < 3) (h : clI R j k cl) (hk : k ≤ 501) (c : k = 501 ∨ 0 ≤ cl) : cin R j = cl := by
  rw [cin_m hj]
  rcases h with ⟨rfl, h1⟩ | ⟨q, h1, rfl, h2, h3⟩
  · rcases c with rfl | c
    · exact cgo_no 501 0 (fun q _ h2 => h1 q (by omega))
    · exact absurd c (by decide)
  · exact cgo_at h2 501 0 (Nat.zero_le _) (by omega) (fun r _ h4 => h3 r h4)
def trI (R : Nat → Int32) (k : Nat) (tr : Int32) : Prop := (tr = -1 ∧ ∀ q, q < k → q < 100 → tkn (pt R q) ≤ 0) ∨ ∃ q, q < k ∧ q < 100 ∧ tr = nI (q + 1) ∧ ¬ tkn (pt R q) ≤ 0 ∧ ∀ r, r < q → tkn (pt R r) ≤ 0
theorem ti_a {R : Nat → Int32} {k : Nat} {tr : Int32} (h : trI R k tr) (c : 0 ≤ tr) : trI R (k + 1) tr := by
  rcases h with ⟨rfl, -⟩ | ⟨q, h1, h2⟩
  · exact absurd c (by decide)
  · exact Or.inr ⟨q, by omega, h2⟩
theorem ti_b {R : Nat → Int32} {k : Nat} {tr : Int32} (h : trI R k tr) (c : ¬ 0 ≤ tr) (c2 : k < 100 → tkn (pt R k) ≤ 0) : trI R (k + 1) tr := by
  rcases h with ⟨rfl, h1⟩ | ⟨q, h1, h2, rfl, h3⟩
  · refine Or.inl ⟨rfl, fun q hq h2 => ?_⟩
    by_cases w : q = k
    · rw [w] at h2 ⊢; exact c2 h2
    · exact h1 q (by omega) h2
  · exact absurd (nI_pos' (by omega)) c
theorem ti_d {R : Nat → Int32} {k : Nat} {tr : Int32} (h : trI R k tr) (c : ¬ 0 ≤ tr) (c2 : ¬ tkn (pt R k) ≤ 0) (hk : k < 100) : trI R (k + 1) (nI (k + 1)) := by
  rcases h with ⟨rfl, h1⟩ | ⟨q, h1, h2, rfl, h3⟩
  · exact Or.inr ⟨k, by omega, hk, rfl, c2, fun r hr => h1 r hr (by omega)⟩
  · exact absurd (nI_pos' (by omega)) c
theorem ngo_no {R : Nat → Int32} : ∀ (m i : Nat), (∀ q, i ≤ q → q < i + m → tkn (pt R q) ≤ 0) → ngo R i m = -1 := by
  intro m
  induction m with
  | zero => intro i _; rfl
  | succ m ih =>
    intro i h
    rw [ngo, if_pos (h i (Nat.le_refl _) (by omega))]
    exact ih (i + 1) (fun q h1 h2 => h q (by omega) (by omega))
theorem ngo_at {R : Nat → Int32} {k : Nat} (hk : ¬ tkn (pt R k) ≤ 0) : ∀ (m i : Nat), i ≤ k → k < i + m → (∀ q, i ≤ q → q < k → tkn (pt R q) ≤ 0) → ngo R i m = nI (k + 1) := by
  intro m
  induction m with
  | zero => intro i h1 h2; omega
  | succ m ih =>
    intro i h1 h2 h
    by_cases w : i = k
    · rw [w, ngo, if_neg hk]
    · rw [ngo, if_pos (h i (Nat.le_refl _) (by omega))]
      exact ih (i + 1) (by omega) (by omega) (fun q g1 g2 => h q (by omega) g2)
theorem ti_e {R : Nat → Int32} {k : Nat} {tr : Int32} (h : trI R k tr) (c : 100 ≤ k ∨ 0 ≤ tr) : ntp R = tr := by
  rw [ntp]
  rcases h with ⟨rfl, h1⟩ | ⟨q, h1, h2, rfl, h3, h4⟩
  · rcases c with c | c
    · exact ngo_no 100 0 (fun q _ h2 => h1 q (by omega) (by omega))
    · exact absurd c (by decide)
  · exact ngo_at h3 100 0 (Nat.zero_le _) (by omega) (fun r _ h5 => h4 r h5)
theorem nI_ge100 {k : Nat} (hk : k < 2 ^ 31) (h : 100 ≤ nI k) : 100 ≤ k := by
  rcases Nat.lt_or_ge k 100 with q | q
  · exact absurd h (nI_ge (a := k) (b := 100) q (by decide))
  · exact q
theorem nI_lt100 {k : Nat} (hk : k < 2 ^ 31) (h : ¬ 100 ≤ nI k) : k < 100 := by
  rcases Nat.lt_or_ge k 100 with q | q
  · exact q
  · exact absurd (nI_le (a := 100) (b := k) q hk) h
theorem tif_2 {R : Nat → Int32} {j : Nat} {v : Int32} : tif R j v 2 = (pwv (usp R j v)) 3 := by rw [pwv_3]; rfl
theorem tif_1p {R : Nat → Int32} {j : Nat} {v : Int32} (hj : j < 3) : tif R j v 1 = (pwv (usp R j v)) j := by rw [pwv_i hj, tif_1]
