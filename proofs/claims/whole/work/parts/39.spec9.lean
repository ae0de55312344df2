/-! the model with what it finds left open -/
def MP (D : va_G) (G : Nat → ClassId) (μ : Nat → Nat) (R S N E B L1 L2 L3 : Nat → Int32) (sm kp th ln sp od : Int32) (hs : Int64) (H : Heap) : Prop := ∃ P la, MO D G μ R S N E P B L1 L2 L3 sm kp th la ln sp od hs H
theorem psum3 {R : Nat → Int32} {f : Int32} : pw R 0 f + pw R 1 f + pw R 2 f = psum R f 3 := by
  rw [psum, psum, psum, psum, Int32.zero_add]
theorem mo_congE {D : va_G} {G : Nat → ClassId} {μ : Nat → Nat} {R S N E E' P B L1 L2 L3 : Nat → Int32} {sm kp th la ln sp od : Int32} {hs : Int64} {H : Heap} (h : MO D G μ R S N E P B L1 L2 L3 sm kp th la ln sp od hs H) (hq : ∀ j, j < 50 → E j = E' j) : MO D G μ R S N E' P B L1 L2 L3 sm kp th la ln sp od hs H := by
  obtain ⟨h0, h1, h2, h3, h4, h5, h6, h7, h8, h9⟩ := h
  exact ⟨h0, h1, h2, h3, at_congr h4 hq, h5, h6, h7, h8, h9⟩
theorem mo_congR {D : va_G} {G : Nat → ClassId} {μ : Nat → Nat} {R R' S N E P B L1 L2 L3 : Nat → Int32} {sm kp th la ln sp od : Int32} {hs : Int64} {H : Heap} (h : MO D G μ R S N E P B L1 L2 L3 sm kp th la ln sp od hs H) (hq : ∀ j, j < 50 → R j = R' j) : MO D G μ R' S N E P B L1 L2 L3 sm kp th la ln sp od hs H := by
  obtain ⟨h0, h1, h2, h3, h4, h5, h6, h7, h8, h9⟩ := h
  exact ⟨h0, at_congr h1 hq, h2, h3, h4, h5, h6, h7, h8, h9⟩
theorem mo_congN {D : va_G} {G : Nat → ClassId} {μ : Nat → Nat} {R S N N' E P B L1 L2 L3 : Nat → Int32} {sm kp th la ln sp od : Int32} {hs : Int64} {H : Heap} (h : MO D G μ R S N E P B L1 L2 L3 sm kp th la ln sp od hs H) (hq : ∀ j, j < 50 → N j = N' j) : MO D G μ R S N' E P B L1 L2 L3 sm kp th la ln sp od hs H := by
  obtain ⟨h0, h1, h2, h3, h4, h5, h6, h7, h8, h9⟩ := h
  exact ⟨h0, h1, h2, at_congr h3 hq, h4, h5, h6, h7, h8, h9⟩
/-- the first k of X, the others of Y -/
def fst6 (X Y : Nat → Int32) (k : Nat) : Nat → Int32 := fun j => if j < k then X j else Y j
theorem fst6_s {X Y : Nat → Int32} {k : Nat} : upd (fst6 X Y k) k (X k) = fst6 X Y (k + 1) := by
  funext j
  unfold fst6
  by_cases q : j = k
  · rw [q, upd_eq, if_pos (by omega)]
  · rw [upd_ne q]
    by_cases q2 : j < k
    · rw [if_pos q2, if_pos (by omega)]
    · rw [if_neg q2, if_neg (by omega)]
theorem fst6_0 {X Y : Nat → Int32} : fst6 X Y 0 = Y := by
  funext j
  unfold fst6
  rw [if_neg (by omega)]
theorem fst6_e {X Y : Nat → Int32} {k j : Nat} (h : j < k) : fst6 X Y k j = X j := if_pos h
theorem sh_x {R : Nat → Int32} {k : Nat} (h : shk R 4 = k + 1) : upd (upd (upd R (39 + 3 * k) 0) (40 + 3 * k) ((upd R (39 + 3 * k) 0) (40 + 3 * k) + 1)) 6 ((upd (upd R (39 + 3 * k) 0) (40 + 3 * k) ((upd R (39 + 3 * k) 0) (40 + 3 * k) + 1)) 6 + 1) = shd R := by
  have e1 : (upd R (39 + 3 * k) 0) (40 + 3 * k) = R (40 + 3 * k) := upd_ne (by omega)
  have e2 : (upd (upd R (39 + 3 * k) 0) (40 + 3 * k) ((upd R (39 + 3 * k) 0) (40 + 3 * k) + 1)) 6 = R 6 := by rw [upd_ne (by omega), upd_ne (by omega)]
  rw [e2, e1, shd, if_neg (by omega), h]
  rfl
theorem sh_0 {R : Nat → Int32} (h : shk R 4 = 0) : shd R = R := by rw [shd, if_pos h]
theorem rat_s {R : Nat → Int32} {i : Nat} (h : bz R) (hi : i < 3) : rat R i + R (12 + 10 * i) * R (8 + 10 * i) = rat R (i + 1) := by
  rw [rat]
  rcases (h.1 i hi).2 with q | q
  · rw [if_pos q, q, Int32.zero_mul, Int32.add_zero]
  · rw [if_neg (by rw [q]; decide), q, Int32.one_mul]
theorem shk_y {R : Nat → Int32} {i : Nat} (h : R (39 + 3 * i) = 1) (h2 : ¬ R (38 + 3 * i) ≤ 0) : shk R (i + 1) = i + 1 := by
  rw [shk, if_neg (by rw [h]; decide), if_neg h2]
theorem shk_n1 {R : Nat → Int32} {i : Nat} (hb : bz R) (hi : i < 4) (h : ¬ R (39 + 3 * i) = 1) : shk R (i + 1) = shk R i := by
  rw [shk, if_pos ((hb.2 i hi).resolve_right h)]
theorem shk_n2 {R : Nat → Int32} {i : Nat} (h : R (38 + 3 * i) ≤ 0) : shk R (i + 1) = shk R i := by
  rw [shk]
  by_cases q : R (39 + 3 * i) = 0
  · rw [if_pos q]
  · rw [if_neg q, if_pos h]
theorem sh_no {k : Nat} (h : nI k = 0) (hk : k ≤ 4 := by exact shk_le _ 4) : k = 0 := (nI_eq (by omega) (by decide)).mp h
