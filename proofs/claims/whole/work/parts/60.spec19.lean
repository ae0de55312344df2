/-! the orders, carried out: the row of orders against the text -/
theorem eop_to {F : Nat → Int32} {e : Nat} : ∀ (m a : Nat), a ≤ e → (∀ k, a ≤ k → k < e → ¬ F k = 59) → (e = a + m ∨ (e < a + m ∧ F e = 59)) → eop F a m = e := by
  intro m
  induction m with
  | zero => intro a h1 _ h2; rw [eop]; omega
  | succ m ih =>
    intro a h1 hn h2
    rw [eop]
    by_cases q : a = e
    · subst q
      rw [if_pos (h2.resolve_left (by omega)).2]
    · rw [if_neg (hn a (Nat.le_refl _) (by omega))]
      exact ih (a + 1) (by omega) (fun k q1 q2 => hn k (by omega) q2) (h2.imp (fun h => by omega) (fun h => ⟨by omega, h.2⟩))
/-- an order with letter c and numbers x and y, carried out -/
def aco (R : Nat → Int32) (c x y : Int32) : Int32 × (Nat → Int32) := if c = 116 then (1, pt R (ix x)) else if c = 102 then (1, upd R (39 + 3 * ix x) y) else if c = 115 then (1, usp R (ix x) y) else cmd R c (ix x)
theorem ltr_59 {c : Int32} (h : ltr c) : ¬ c = 59 := by rcases h with rfl | rfl | rfl | rfl | rfl | rfl | rfl <;> decide
theorem car_aco {R B : Nat → Int32} {len : Nat} {L1 L2 L3 : Nat → Int32} {k a e : Nat} (h : ordK B len L1 L2 L3 k a e) : car R B len a e = aco R (L1 k) (L2 k) (L3 k) := by
  obtain ⟨⟨h1, h2, -, h4, h5, h6, h7⟩, hL, hl⟩ := h
  rw [car, cod_in (by omega), aco, hL]
  by_cases q : B a = 116
  · obtain ⟨t, ht, e2, e3⟩ := h4 q
    rw [if_pos q, if_pos q, e3, e2]
  · rw [if_neg q, if_neg q]
    obtain ⟨j, hj, hj3, e2, e3⟩ := h5 q
    by_cases q2 : B a = 102
    · rw [if_pos q2, if_pos q2, e3, e2, swf, nF_ok hj, if_pos rfl, h6 q2]
    · rw [if_neg q2, if_neg q2, e3, nS_ok (hj3 q2), if_pos rfl]
      by_cases q3 : B a = 115
      · obtain ⟨g1, v, hv, e4, e5⟩ := h7 q3
        rw [if_pos q3, if_pos q3, e5, e4, e2]
      · rw [if_neg q3, if_neg q3, e2]
/-- what is known of an order's numbers -/
def onum (c x y : Int32) : Prop := ltr c ∧ (c = 116 → ∃ t : Nat, t ≤ 99 ∧ x = nI t) ∧ (¬ c = 116 → ∃ j : Nat, j < 4 ∧ (¬ c = 102 → j < 3) ∧ x = nI j) ∧ (c = 102 → y = 0 ∨ y = 1) ∧ (c = 115 → ∃ v : Nat, v ≤ 600 ∧ y = nI (4700 + v))
theorem ord_num {B : Nat → Int32} {len : Nat} {L1 L2 L3 : Nat → Int32} {k a e : Nat} (h : ordK B len L1 L2 L3 k a e) : onum (L1 k) (L2 k) (L3 k) := by
  obtain ⟨⟨h1, h2, -, h4, h5, h6, h7⟩, hL, hl⟩ := h
  rw [hL]
  refine ⟨hl, fun q => ?_, fun q => ?_, fun q => ?_, fun q => ?_⟩
  · obtain ⟨t, ht, e2, e3⟩ := h4 q; exact ⟨t, ht, e2⟩
  · obtain ⟨j, hj, hj3, e2, e3⟩ := h5 q; exact ⟨j, hj, hj3, e2⟩
  · rw [h6 q]
    split
    · exact Or.inr rfl
    · exact Or.inl rfl
  · obtain ⟨g1, v, hv, e4, e5⟩ := h7 q; exact ⟨v, hv, e4⟩
theorem gd_cmd {R : Nat → Int32} {c : Int32} {j : Nat} (h : gd R) (hj : j < 3) : gd (cmd R c j).2 := by
  unfold cmd
  repeat' split
  all_goals first | exact h | exact gd_sw (k := 12) h hj (Or.inr rfl) (Or.inr rfl) | exact gd_sw (k := 11) h hj (Or.inl rfl) (Or.inl rfl) | exact gd_sw (k := 11) h hj (Or.inl rfl) (Or.inr rfl) | exact gd_sw (k := 12) h hj (Or.inr rfl) (Or.inl rfl)
theorem gd_aco {R : Nat → Int32} {c x y : Int32} (h : gd R) (hn : onum c x y) : gd (aco R c x y).2 := by
  obtain ⟨-, h1, h2, h3, h4⟩ := hn
  unfold aco
  split
  · exact gd_pt h _
  · rename_i q
    obtain ⟨j, hj, hj3, rfl⟩ := h2 q
    rw [ix_nI (by omega)]
    split
    · rename_i q2; exact gd_feed h hj (h3 q2)
    · rename_i q2
      split
      · rename_i q3
        obtain ⟨v, hv, rfl⟩ := h4 q3
        exact gd_usp h (hj3 q2) hv
      · exact gd_cmd h (hj3 q2)
theorem rst_lo {R : Nat → Int32} {j k : Nat} {x : Int32} {w : Nat} (hk : k < 8) : (rst (upd R (11 + w + 10 * j) x) j) k = R k := by rw [rst_at (by omega), upd_ne (by omega)]
theorem bud_cmd {R : Nat → Int32} {c : Int32} {j n : Nat} (h : bud R n) : bud (cmd R c j).2 n := by
  unfold cmd
  repeat' split
  all_goals first | exact h | exact bud_c h (rst_lo (w := 1) (by decide)) (rst_lo (w := 1) (by decide)) | exact bud_c h (rst_lo (w := 0) (by decide)) (rst_lo (w := 0) (by decide))
theorem bud_aco {R : Nat → Int32} {c x y : Int32} {n : Nat} (hg : gd R) (h : bud R n) (hn : onum c x y) : bud (aco R c x y).2 (n + 99) := by
  obtain ⟨-, h1, h2, h3, h4⟩ := hn
  unfold aco
  split
  · rename_i q
    obtain ⟨t, ht, rfl⟩ := h1 q
    rw [ix_nI (by omega)]
    exact bud_le (bud_pt hg h t) (by omega)
  · split
    · exact bud_le (bud_c h (upd_ne (by omega)) (upd_ne (by omega))) (by omega)
    · split
      · exact bud_le (bud_c h (upd_ne (by omega)) (upd_ne (by omega))) (by omega)
      · exact bud_le (bud_cmd h) (by omega)
theorem aco_no {R : Nat → Int32} {c x y : Int32} (h : (aco R c x y).1 = 0) : (aco R c x y).2 = R := by
  unfold aco at h ⊢
  split
  · rename_i q; rw [if_pos q] at h; exact absurd (show (1 : Int32) = 0 from h) (by decide)
  · rename_i q; rw [if_neg q] at h
    split
    · rename_i q2; rw [if_pos q2] at h; exact absurd (show (1 : Int32) = 0 from h) (by decide)
    · rename_i q2; rw [if_neg q2] at h
      split
      · rename_i q3; rw [if_pos q3] at h; exact absurd (show (1 : Int32) = 0 from h) (by decide)
      · rename_i q3; rw [if_neg q3] at h
        unfold cmd at h ⊢
        repeat' split
        all_goals first | rfl | (rename_i z; exact absurd h (by simp_all)) | simp_all
theorem oby_stop {B : Nat → Int32} {len m a i : Nat} {R : Nat → Int32} (h : len ≤ a) : oby B len m a i R = (i, R) := by
  cases m with
  | zero => rfl
  | succ m => rw [oby, if_pos h]
theorem oby_no {B : Nat → Int32} {len m a e i : Nat} {R R' : Nat → Int32} {z : Int32} (ha : a < len) (he : eop B a (len - a) = e) (hc : car R B len a e = (z, R')) (hz : z = 0) (hR : R' = R) : oby B len (m + 1) a i R = (i, R) := by
  subst hz hR
  rw [oby, if_neg (by omega), he, hc, if_pos rfl]
theorem oby_yes {B : Nat → Int32} {len m a e i : Nat} {R R' : Nat → Int32} {z : Int32} (ha : a < len) (he : eop B a (len - a) = e) (hc : car R B len a e = (z, R')) (hz : ¬ z = 0) : oby B len (m + 1) a i R = oby B len m (e + 1) (i + 1) R' := by
  rw [oby, if_neg (by omega), he, hc, if_neg hz]
theorem chn_eop {B : Nat → Int32} {len : Nat} {L1 L2 L3 : Nat → Int32} {o k : Nat} {s : Nat → Nat} (h : chn B len L1 L2 L3 o s) (hk : k < o) (ho : s o = len + 1) : eop B (s k) (len - s k) = s (k + 1) - 1 ∧ s k < len ∧ s (k + 1) - 1 + 1 = s (k + 1) := by
  obtain ⟨⟨⟨h1, h2, h3, -, -, -, -⟩, hL, hl⟩, g1, g2, g3⟩ := h.2 k hk
  refine ⟨eop_to _ _ (by omega) (fun q q1 q2 => ?_) ?_, by omega, by omega⟩
  · by_cases w : q = s k
    · rw [w]; exact ltr_59 hl
    · exact h3 q (by omega) q2
  · by_cases w : k + 1 < o
    · have := g3 w
      by_cases w2 : s (k + 1) - 1 = s k + (len - s k)
      · exact Or.inl w2
      · exact Or.inr ⟨by omega, this⟩
    · have : k + 1 = o := by omega
      rw [this, ho]
      exact Or.inl (by omega)
theorem oby_0 {B : Nat → Int32} {len : Nat} {L1 L2 L3 : Nat → Int32} {o k : Nat} {s : Nat → Nat} {R : Nat → Int32} (h : chn B len L1 L2 L3 o s) (hk : k < o) (ho : s o = len + 1) (h20 : o ≤ 20) (hz : (aco R (L1 k) (L2 k) (L3 k)).1 = 0) : oby B len (60 - k) (s k) k R = (k, R) := by
  obtain ⟨h1, h2, h3⟩ := chn_eop h hk ho
  rw [show 60 - k = (59 - k) + 1 by omega]
  exact oby_no h2 h1 (car_aco (h.2 k hk).1) hz (aco_no hz)
theorem oby_1 {B : Nat → Int32} {len : Nat} {L1 L2 L3 : Nat → Int32} {o k : Nat} {s : Nat → Nat} {R : Nat → Int32} (h : chn B len L1 L2 L3 o s) (hk : k < o) (ho : s o = len + 1) (h20 : o ≤ 20) (hz : ¬ (aco R (L1 k) (L2 k) (L3 k)).1 = 0) : oby B len (60 - k) (s k) k R = oby B len (60 - (k + 1)) (s (k + 1)) (k + 1) (aco R (L1 k) (L2 k) (L3 k)).2 := by
  obtain ⟨h1, h2, h3⟩ := chn_eop h hk ho
  rw [show 60 - k = (60 - (k + 1)) + 1 by omega, ← h3]
  exact oby_yes h2 h1 (car_aco (h.2 k hk).1) hz
theorem oby_gd {B : Nat → Int32} {len : Nat} {L1 L2 L3 : Nat → Int32} {o : Nat} {s : Nat → Nat} (h : chn B len L1 L2 L3 o s) (ho : s o = len + 1) (h20 : o ≤ 20) : ∀ (m k : Nat) (R : Nat → Int32) (n : Nat), k + m = o → gd R → bud R n → gd (oby B len (60 - k) (s k) k R).2 ∧ bud (oby B len (60 - k) (s k) k R).2 (n + 99 * m) ∧ (oby B len (60 - k) (s k) k R).1 ≤ o := by
  intro m
  induction m with
  | zero =>
    intro k R n hk hg hb
    have : k = o := by omega
    subst this
    rw [oby_stop (by omega)]
    exact ⟨hg, by simpa using hb, Nat.le_refl _⟩
  | succ m ih =>
    intro k R n hk hg hb
    by_cases hz : (aco R (L1 k) (L2 k) (L3 k)).1 = 0
    · rw [oby_0 h (by omega) ho h20 hz]
      exact ⟨hg, bud_le hb (by omega), by show k ≤ o; omega⟩
    · rw [oby_1 h (by omega) ho h20 hz]
      have hn := ord_num (h.2 k (by omega)).1
      obtain ⟨a, b, c⟩ := ih (k + 1) _ (n + 99) (by omega) (gd_aco hg hn) (bud_aco hg hb hn)
      exact ⟨a, bud_le b (by omega), c⟩
/-! each letter -/
theorem aco_r {R : Nat → Int32} {j : Nat} {y : Int32} (hj : j < 4) : aco R 114 (nI j) y = if R (11 + 10 * j) = 0 then (1, rst (upd R (11 + 10 * j) 1) j) else (0, R) := by
  simp [aco, cmd, ix_nI (show j < 2 ^ 31 by omega)]
theorem aco_h {R : Nat → Int32} {j : Nat} {y : Int32} (hj : j < 4) : aco R 104 (nI j) y = if R (11 + 10 * j) = 0 then (0, R) else if R (12 + 10 * j) = 0 then (1, rst (upd R (11 + 10 * j) 0) j) else (0, R) := by
  simp [aco, cmd, ix_nI (show j < 2 ^ 31 by omega)]
theorem aco_c {R : Nat → Int32} {j : Nat} {y : Int32} (hj : j < 4) : aco R 99 (nI j) y = if rsn R j = 0 then (1, rst (upd R (12 + 10 * j) 1) j) else (0, R) := by
  simp [aco, cmd, ix_nI (show j < 2 ^ 31 by omega)]
theorem aco_o {R : Nat → Int32} {j : Nat} {y : Int32} (hj : j < 4) : aco R 111 (nI j) y = if R (12 + 10 * j) = 0 then (0, R) else (1, rst (upd R (12 + 10 * j) 0) j) := by
  simp [aco, cmd, ix_nI (show j < 2 ^ 31 by omega)]
theorem aco_s {R : Nat → Int32} {j : Nat} {y : Int32} (hj : j < 4) : aco R 115 (nI j) y = (1, usp R j y) := by
  simp [aco, ix_nI (show j < 2 ^ 31 by omega)]
theorem aco_f {R : Nat → Int32} {j : Nat} {y : Int32} (hj : j < 4) : aco R 102 (nI j) y = (1, upd R (39 + 3 * j) y) := by
  simp [aco, ix_nI (show j < 2 ^ 31 by omega)]
theorem aco_t {R : Nat → Int32} {t : Nat} {y : Int32} (ht : t ≤ 99) : aco R 116 (nI t) y = (1, pt R t) := by
  simp [aco, ix_nI (show t < 2 ^ 31 by omega)]
