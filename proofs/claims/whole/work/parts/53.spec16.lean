/-! the model's digest; its checks -/
theorem ord_self {s : Bool} {c : Nat} {q : Int} : FP.Core.order (.fin s c q) (.fin s c q) = some .eq := by
  show some (compareOfLessAndEq _ _) = _
  unfold compareOfLessAndEq
  rw [if_neg (Int.lt_irrefl _), if_pos rfl]
theorem okD_c {x : UInt64} (h : okD x) : Op.cmpValue (FP.dcmp x x) .l = 0 := by
  have e : FP.dcmp x x = some .eq := by
    rcases h with rfl | ⟨e, t, h1, h2, ht, rfl⟩
    · decide +kernel
    · show FP.Core.order _ _ = _
      rw [dE_dec h1 h2 ht]
      exact ord_self
  rw [e]; rfl
theorem okF_c {x : UInt32} (h : okF x) : Op.cmpValue (FP.fcmp x x) .l = 0 := by
  have e : FP.fcmp x x = some .eq := by
    rcases h with rfl | ⟨e, t, h1, h2, ht, rfl⟩
    · decide +kernel
    · show FP.Core.order _ _ = _
      rw [fE_dec h1 h2 ht]
      exact ord_self
  rw [e]; rfl
theorem fo_c {f g : Nat → Int32} {h : Int64} : ∀ n, (∀ k, k < n → f k = g k) → fo f n h = fo g n h := by
  intro n
  induction n with
  | zero => exact fun _ => rfl
  | succ n ih =>
    intro q
    rw [fo, fo, ih (fun k hk => q k (by omega)), q n (by omega)]
theorem one_z {x : Int32} (h : x = 0 ∨ x = 1) : (if x = 0 then (0 : Int32) else 1) = x := by rcases h with rfl | rfl <;> rfl
theorem fo3 {R : Nat → Int32} {j : Nat} {h : Int64} (hb : R (39 + 3 * j) = 0 ∨ R (39 + 3 * j) = 1) : fo (fun k => tfee R j (nI k)) 3 h = 31 * (31 * (31 * h + Int32.toInt64 (R (38 + 3 * j))) + Int32.toInt64 (R (39 + 3 * j))) + Int32.toInt64 (R (40 + 3 * j)) := by
  have e0 : tfee R j (nI 0) = R (38 + 3 * j) := if_pos rfl
  have e1 : tfee R j (nI 1) = R (39 + 3 * j) := by
    rw [tfee, if_neg (by decide), if_pos (show nI 1 = 1 from rfl)]; exact one_z hb
  have e2 : tfee R j (nI 2) = R (40 + 3 * j) := by
    rw [tfee, if_neg (by decide), if_neg (by decide)]
  rw [fo, fo, fo, fo]
  simp only [e0, e1, e2]
theorem fo12 {R : Nat → Int32} {h : Int64} (hb : bz R) : fo (fun k => R (38 + k)) 12 h = fof R 4 h := by
  rw [fof, fof, fof, fof, fof, fo3 (hb.2 0 (by omega)), fo3 (hb.2 1 (by omega)), fo3 (hb.2 2 (by omega)), fo3 (hb.2 3 (by omega))]
  rw [fo, fo, fo, fo, fo, fo, fo, fo, fo, fo, fo, fo, fo]
theorem fo_cod {F : Nat → Int32} {n : Nat} {h : Int64} : fo F n h = fo (fun k => cod F n k) n h := fo_c n (fun _ hk => (cod_in hk).symm)
theorem gd_w5 {R : Nat → Int32} {j : Nat} (h : gd R) (hj : j < 3) : wz (usp R j 5050) := gd_wz (gd_usp (a := 350) h hj (by omega))
theorem gd_wv {R : Nat → Int32} {j : Nat} (h : gd R) (hj : j < 3) : ∀ k, k ≤ 600 → wz (usp R j (nI (4700 + k))) := fun _ hk => gd_wz (gd_usp h hj hk)
/-- the saved state i -/
def sxr (S : Nat → Int32) (i : Nat) : Nat → Int32 := fun k => S (50 * i + k)
theorem sS_ok {i : Int32} (h : ¬ (if i < 0 then (0 : Int32) else if 2 < i then 0 else 1) = 0) : ∃ j : Nat, j < 3 ∧ i = nI j := by
  have h0 : ¬ i < 0 := fun q => h (by rw [if_pos q])
  rw [if_neg h0] at h
  have h1 : ¬ 2 < i := fun q => h (by rw [if_pos q])
  obtain ⟨j, h2, h3⟩ := nI_of2 (x := i) (M := 2) (n := 2) (by decide) h0 (Int32.not_lt.mp h1)
  exact ⟨j, by omega, h3⟩
theorem sS_no {i k : Int32} (h : (if i < 0 then (0 : Int32) else if 2 < i then 0 else 1) = 0) : nS i k = 1 := by
  apply nS_bad
  by_cases q : i < 0
  · exact Or.inl q
  · rw [if_neg q] at h
    by_cases q2 : 2 < i
    · refine Or.inr (Int32.not_lt.mp (fun q3 => ?_))
      rw [Int32.lt_iff_toInt_lt, show (2 : Int32).toInt = 2 by decide] at q2
      rw [Int32.lt_iff_toInt_lt, show (3 : Int32).toInt = 3 by decide] at q3
      omega
    · rw [if_neg q2] at h; exact absurd h (by decide)
theorem sF_ok {i : Int32} (h : ¬ (if i < 0 then (0 : Int32) else if 3 < i then 0 else 1) = 0) : ∃ j : Nat, j < 4 ∧ i = nI j := by
  have h0 : ¬ i < 0 := fun q => h (by rw [if_pos q])
  rw [if_neg h0] at h
  have h1 : ¬ 3 < i := fun q => h (by rw [if_pos q])
  obtain ⟨j, h2, h3⟩ := nI_of2 (x := i) (M := 3) (n := 3) (by decide) h0 (Int32.not_lt.mp h1)
  exact ⟨j, by omega, h3⟩
theorem sF_no {i k : Int32} (h : (if i < 0 then (0 : Int32) else if 3 < i then 0 else 1) = 0) : nF i k = 1 := by
  apply nF_bad
  by_cases q : i < 0
  · exact Or.inl q
  · rw [if_neg q] at h
    by_cases q2 : 3 < i
    · refine Or.inr (Int32.not_lt.mp (fun q3 => ?_))
      rw [Int32.lt_iff_toInt_lt, show (3 : Int32).toInt = 3 by decide] at q2
      rw [Int32.lt_iff_toInt_lt, show (4 : Int32).toInt = 4 by decide] at q3
      omega
    · rw [if_neg q2] at h; exact absurd h (by decide)
theorem sR_ok {v a b : Int32} (h : ¬ (if v < a then (0 : Int32) else if b < v then 0 else 1) = 0) : ¬ v < a ∧ ¬ b < v := by
  have h0 : ¬ v < a := fun q => h (by rw [if_pos q])
  rw [if_neg h0] at h
  exact ⟨h0, fun q => h (by rw [if_pos q])⟩
theorem sR_no {v a b c k : Int32} (h : (if v < a then (0 : Int32) else if b < v then 0 else 1) = 0) : nR v a b c k = c := by
  apply nR_bad
  by_cases q : v < a
  · exact Or.inl q
  · rw [if_neg q] at h
    by_cases q2 : b < v
    · exact Or.inr q2
    · rw [if_neg q2] at h; exact absurd h (by decide)
theorem in_nI {v : Int32} {a b : Nat} {A B : Int32} (hA : A = nI a) (hB : B = nI b) (hb : b < 2 ^ 31) (ha : a ≤ b) (h : ¬ v < A ∧ ¬ B < v) : ∃ j : Nat, a ≤ j ∧ j ≤ b ∧ v = nI j := by
  subst hA hB
  have h0 : ¬ v < 0 := fun q => h.1 (Int32.lt_of_lt_of_le q (nI_pos' (by omega)))
  obtain ⟨j, h2, h3⟩ := nI_of2 (x := v) (M := nI b) (n := b) (nI_toInt hb) h0 (Int32.not_lt.mp h.2)
  refine ⟨j, ?_, h2, h3⟩
  rw [h3] at h
  have := h.1
  rcases Nat.lt_or_ge j a with q | q
  · exact absurd (nI_lt q (by omega)) this
  · exact q
