theorem alv_1 {R : Nat → Int32} {i : Nat} (hi : i < 3) (h : ¬ R (12 + 10 * i) = 0) : (1 : Int32) = alv R := by
  unfold alv
  rw [if_neg]
  rintro ⟨a, b, c⟩
  match i, hi with
  | 0, _ => exact h a
  | 1, _ => exact h b
  | 2, _ => exact h c
theorem lw_i {R : Nat → Int32} {i : Nat} (hi : i < 3) (hz : ∀ j, j < i → R (12 + 10 * j) = 0) (h : ¬ R (12 + 10 * i) = 0) : nI i = lw R := by
  match i, hi with
  | 0, _ => 
    have h' : ¬ R 12 = 0 := h
    simp only [lw]; rw [if_pos h']; rfl
  | 1, _ => 
    have h' : ¬ R 22 = 0 := h
    have h0 : R 12 = 0 := hz 0 (by omega)
    simp only [lw]; rw [if_neg (by simp [h0]), if_pos h']; rfl
  | 2, _ => 
    have h' : ¬ R 32 = 0 := h
    have h0 : R 12 = 0 := hz 0 (by omega)
    have h1 : R 22 = 0 := hz 1 (by omega)
    simp only [lw]; rw [if_neg (by simp [h0]), if_neg (by simp [h1]), if_pos h']; rfl
theorem half_eq {lo hi mid : Nat} (h : lo + hi ≤ 1200) (hm : mid = (lo + hi + 1) / 2) : (nI (4700 + lo) + nI (4700 + hi) + 1) / 2 = nI (4700 + mid) := by
  rw [nI_add, nI_1, show (2 : Int32) = nI 2 from rfl, pk_div (by omega) (by omega) (by omega)]
  congr 1
  omega
theorem fd_pred {k : Nat} (h : 0 < k) : nI (4700 + k) - 1 = nI (4700 + (k - 1)) := by
  rw [show 4700 + k = (4700 + (k - 1)) + 1 by omega, nI_pred]
theorem fd_dec {k : Nat} (h : 0 < k) : nI (4700 + k) + Int32.ofInt (-1) = nI (4700 + (k - 1)) := by
  rw [show 4700 + k = (4700 + (k - 1)) + 1 by omega]
  exact nI_dec _
theorem fok_t {R : Nat → Int32} {k : Nat} (h : ¬ tot R (nI (4700 + k)) < ld R) : fok R k = true := by
  simp only [fok, decide_eq_true_eq]
  exact Int32.not_lt.mp h
theorem fok_f {R : Nat → Int32} {k : Nat} (h : tot R (nI (4700 + k)) < ld R) : fok R k = false := by
  simp only [fok, decide_eq_false_iff_not]
  exact Int32.not_le.mpr h
theorem fok_n {R : Nat → Int32} (hm : ∀ j k, j ≤ k → k ≤ 600 → fok R k = true → fok R j = true) {j k : Nat} (h : j ≤ k) (hk : k ≤ 600) (hf : fok R j = false) : fok R k = false := by
  cases e : fok R k with
  | false => rfl
  | true => rw [hm j k h hk e] at hf; cases hf
theorem hv_hw {a b n : Nat} (hw : a < 2 ^ (n + 1)) (h : 2 * b ≤ a) : b < 2 ^ n := by
  rw [Nat.pow_succ] at hw
  omega
theorem fsb_eq {ok : Nat → Bool} : ∀ {N m : Nat}, m ≤ N → (m = 0 ∨ ok m = true) → (∀ k, m < k → k ≤ N → ok k = false) → fsb ok N = m
  | 0, m, hm, _, _ => by
    have : m = 0 := by omega
    rw [this]; rfl
  | N + 1, m, hm, h0, h1 => by
    rcases Nat.lt_or_ge m (N + 1) with q | q
    · rw [fsb, h1 (N + 1) q (Nat.le_refl _)]
      simp only [Bool.false_eq_true, if_false]
      exact fsb_eq (by omega) h0 (fun k a b => h1 k a (by omega))
    · have e : m = N + 1 := by omega
      subst e
      rcases h0 with h0 | h0
      · cases h0
      · rw [fsb, if_pos h0]
theorem fsb_dn {ok : Nat → Bool} {k : Nat} (h : 0 < k) (hf : ok k = false) : fsb ok k = fsb ok (k - 1) := by
  obtain ⟨j, rfl⟩ : ∃ j, k = j + 1 := ⟨k - 1, by omega⟩
  rw [fsb, hf]
  simp
theorem fsb_at {ok : Nat → Bool} {k : Nat} (h : 0 < k) (hf : ok k = true) : fsb ok k = k := by
  obtain ⟨j, rfl⟩ : ∃ j, k = j + 1 := ⟨k - 1, by omega⟩
  rw [fsb, if_pos hf]
theorem fq_of {R : Nat → Int32} (h : ¬ alv R = 0) {k : Nat} (hk : fsb (fok R) 600 = k) : nI (4700 + k) = fq R := by
  unfold fq
  rw [if_neg h, hk]
