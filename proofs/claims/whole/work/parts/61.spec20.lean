/-! the model as its callers know it -/
def MM (D : va_G) (G : Nat → ClassId) (μ : Nat → Nat) (R S N B : Nat → Int32) (sm kp th ln : Int32) (H : Heap) : Prop := ∃ E P L1 L2 L3 la sp od hs, MO D G μ R S N E P B L1 L2 L3 sm kp th la ln sp od hs H
theorem MM.of {D : va_G} {G : Nat → ClassId} {μ : Nat → Nat} {R S N E P B L1 L2 L3 : Nat → Int32} {sm kp th la ln sp od : Int32} {hs : Int64} {H : Heap} (h : MO D G μ R S N E P B L1 L2 L3 sm kp th la ln sp od hs H) : MM D G μ R S N B sm kp th ln H := ⟨_, _, _, _, _, _, _, _, _, h⟩
theorem MM.keep {D : va_G} {G : Nat → ClassId} {μ : Nat → Nat} {R S N B : Nat → Int32} {sm kp th ln : Int32} {H H1 : Heap} (h : MM D G μ R S N B sm kp th ln H) (hq : ∀ k, k < 10 → H1[μ k]? = H[μ k]?) : MM D G μ R S N B sm kp th ln H1 := by
  obtain ⟨E, P, L1, L2, L3, la, sp, od, hs, h⟩ := h
  exact ⟨E, P, L1, L2, L3, la, sp, od, hs, h.keep hq⟩
theorem osum_sm {R : Nat → Int32} {v : Nat} (h : gd R) (hv : v = 11 ∨ v = 12) : sm3 R v = osum R v 3 := by
  apply sm3_o
  rcases hv with rfl | rfl
  · exact fun i hi => ((gd_bz h).1 i hi).1
  · exact fun i hi => ((gd_bz h).1 i hi).2
theorem sp_in {v : Int32} (h : ¬ v < 4700 ∧ ¬ 5300 < v) : ∃ a : Nat, a ≤ 600 ∧ v = nI (4700 + a) := by
  obtain ⟨j, h1, h2, h3⟩ := in_nI (a := 4700) (b := 5300) rfl rfl (by decide) (by decide) h
  exact ⟨j - 4700, by omega, by rw [h3, show 4700 + (j - 4700) = j by omega]⟩
theorem hq_12 {q : Int32} (h : ¬ q < 0 ∧ ¬ 12 < q) : q = 0 ∨ q = 1 ∨ q = 2 ∨ q = 3 ∨ q = 4 ∨ q = 5 ∨ q = 6 ∨ q = 7 ∨ q = 8 ∨ q = 9 ∨ q = 10 ∨ q = 11 ∨ q = 12 := by
  obtain ⟨j, h1, h2, rfl⟩ := in_nI (a := 0) (b := 12) rfl rfl (by decide) (by decide) h
  exact nI_13 (by omega)
theorem hq_11 {q : Int32} (h : ¬ q < 0 ∧ ¬ 11 < q) : q = 0 ∨ q = 1 ∨ q = 2 ∨ q = 3 ∨ q = 4 ∨ q = 5 ∨ q = 6 ∨ q = 7 ∨ q = 8 ∨ q = 9 ∨ q = 10 ∨ q = 11 := by
  obtain ⟨j, h1, h2, rfl⟩ := in_nI (a := 0) (b := 11) rfl rfl (by decide) (by decide) h
  exact nI_12 (by omega)
theorem hw_2 {q : Int32} (h : ¬ q < 0 ∧ ¬ 2 < q) : ∃ w : Nat, w < 3 ∧ q = nI w := by
  obtain ⟨j, h1, h2, h3⟩ := in_nI (a := 0) (b := 2) rfl rfl (by decide) (by decide) h
  exact ⟨j, by omega, h3⟩
theorem tfee_w {R : Nat → Int32} {j w : Nat} (h : gd R) (hj : j < 4) (hw : w < 3) : tfee R j (nI w) = R (38 + w + 3 * j) := by
  rcases (show w = 0 ∨ w = 1 ∨ w = 2 by omega) with rfl | rfl | rfl
  · rw [tfee, if_pos (show nI 0 = 0 from rfl), show 38 + 0 + 3 * j = 38 + 3 * j by omega]
  · rw [tfee, if_neg (by decide), if_pos (show nI 1 = 1 from rfl), one_z ((gd_bz h).2 j hj)]
  · rw [tfee, if_neg (by decide), if_neg (by decide)]
theorem sF4_ok {i : Int32} (h : ¬ (if i < 0 then (0 : Int32) else if 3 < i then 0 else 1) = 0) : ∃ j : Nat, j < 4 ∧ i = nI j := sF_ok h
theorem ch_ok {R : Nat → Int32} {j : Nat} (h : ¬ (if R (11 + 10 * j) = 1 then (if R (12 + 10 * j) = 0 then (1 : Int32) else 0) else 0) = 0) : (if R (11 + 10 * j) = 0 then (2 : Int32) else if R (12 + 10 * j) = 0 then 0 else 2) = 0 := by
  split at h
  · rename_i q
    split at h
    · rename_i q2
      rw [if_neg (by rw [q]; decide), if_pos q2]
    · exact absurd rfl h
  · exact absurd rfl h
theorem ch_no {R : Nat → Int32} {j : Nat} (hb : R (11 + 10 * j) = 0 ∨ R (11 + 10 * j) = 1) (h : (if R (11 + 10 * j) = 1 then (if R (12 + 10 * j) = 0 then (1 : Int32) else 0) else 0) = 0) : (if R (11 + 10 * j) = 0 then (2 : Int32) else if R (12 + 10 * j) = 0 then 0 else 2) = 2 := by
  rcases hb with q | q
  · rw [if_pos q]
  · rw [if_pos q] at h
    rw [if_neg (by rw [q]; decide), if_neg]
    intro q2
    rw [if_pos q2] at h
    exact absurd h (by decide)
theorem ln_lt {len : Nat} (h : ¬ nI len = 60) (hl : len ≤ 60) : len < 60 := by
  rcases Nat.lt_or_ge len 60 with q | q
  · exact q
  · exact absurd (by rw [show len = 60 by omega]; rfl) h
theorem ln_ge {len : Nat} (h : nI len = 60) (hl : len ≤ 60) : ¬ len < 60 := by
  have := (nI_eq (a := len) (b := 60) (by omega) (by decide)).mp h
  omega
theorem mI_l0 (j : Nat) : (38 : Int32) + 3 * nI j + 0 = nI (38 + 3 * j) := mI_ln (j := j) (w := 0) (v := 38) rfl
