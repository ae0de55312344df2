/-! the model's reader, against the places of the text -/
theorem nx0 (c : Int32) : nxt 0 c = 0 := by simp [nxt]
theorem nx1 (c : Int32) : nxt 1 c = aftl c := by simp [nxt]
theorem nx2 (c : Int32) : nxt 2 c = btw c 48 50 16 := by simp [nxt]
theorem nx3 (c : Int32) : nxt 3 c = btw c 48 50 4 := by simp [nxt]
theorem nx4 (c : Int32) : nxt 4 c = btw c 61 61 5 := by simp [nxt]
theorem nx5 (c : Int32) : nxt 5 c = if c = 53 then 7 else btw c 52 52 6 := by simp [nxt]
theorem nx6 (c : Int32) : nxt 6 c = btw c 55 57 10 := by simp [nxt]
theorem nx7 (c : Int32) : nxt 7 c = if c = 51 then 8 else btw c 48 50 10 := by simp [nxt]
theorem nx8 (c : Int32) : nxt 8 c = btw c 48 48 9 := by simp [nxt]
theorem nx9 (c : Int32) : nxt 9 c = btw c 48 48 16 := by simp [nxt]
theorem nx10 (c : Int32) : nxt 10 c = btw c 48 57 11 := by simp [nxt]
theorem nx11 (c : Int32) : nxt 11 c = btw c 48 57 16 := by simp [nxt]
theorem nx12 (c : Int32) : nxt 12 c = btw c 48 51 13 := by simp [nxt]
theorem nx13 (c : Int32) : nxt 13 c = if c = 45 then 16 else btw c 43 43 16 := by simp [nxt]
theorem nx14 (c : Int32) : nxt 14 c = btw c 49 57 15 := by simp [nxt]
theorem nx15 (c : Int32) : nxt 15 c = if c = 59 then 1 else btw c 48 57 16 := by simp [nxt]
theorem nx16 (c : Int32) : nxt 16 c = btw c 59 59 1 := by simp [nxt]
theorem bt_y {c a b t : Int32} (h : ¬ c < a ∧ ¬ b < c) : btw c a b t = t := by rw [btw, if_neg h.1, if_neg h.2]
theorem bt_n {c a b t : Int32} (h : c < a ∨ b < c) : btw c a b t = 0 := by
  rw [btw]
  by_cases q : c < a
  · rw [if_pos q]
  · rw [if_neg q, if_pos (h.resolve_left q)]
/-- a number in words of whole numbers -/
theorem c_rng {c : Int32} {a b : Int32} : (¬ c < a ∧ ¬ b < c) ↔ a.toInt ≤ c.toInt ∧ c.toInt ≤ b.toInt := by
  rw [Int32.lt_iff_toInt_lt, Int32.lt_iff_toInt_lt]; omega
theorem c_out {c : Int32} {a b : Int32} : (c < a ∨ b < c) ↔ c.toInt < a.toInt ∨ b.toInt < c.toInt := by
  rw [Int32.lt_iff_toInt_lt, Int32.lt_iff_toInt_lt]
theorem c_eq {c d : Int32} : c = d ↔ c.toInt = d.toInt := Int32.toInt_inj.symm
theorem c_ne {c d : Int32} : ¬ c = d ↔ ¬ c.toInt = d.toInt := not_congr c_eq
theorem c_one {c a : Int32} (h : ¬ c < a ∧ ¬ a < c) : c = a := by
  rw [c_rng] at h; rw [c_eq]; omega
def bad (B : Nat → Int32) (len p : Nat) : Prop := (p = len ∧ ¬ dfa B p = 16 ∧ ¬ dfa B p = 15 ∧ ¬ dfa B p = 0) ∨ (p < len ∧ dfa B (p + 1) = 0 ∧ ¬ dfa B p = 0)
theorem df_s {B : Nat → Int32} {p : Nat} {q : Int32} (h : dfa B p = q) : dfa B (p + 1) = nxt q (B p) := by
  show nxt (dfa B p) (B p) = _
  rw [h]
theorem bad_n {B : Nat → Int32} {len p : Nat} {q : Int32} {X : Prop} (hd : dfa B p = q) (h0 : ¬ q = 0) (h15 : ¬ q = 15) (h16 : ¬ q = 16) (hp : p ≤ len) (hq : len ≤ p ∨ X) (hn : X → nxt q (B p) = 0) : bad B len p := by
  rcases Nat.lt_or_ge p len with h | h
  · refine Or.inr ⟨h, ?_, by rw [hd]; exact h0⟩
    rw [df_s hd]
    exact hn (hq.resolve_left (by omega))
  · refine Or.inl ⟨by omega, ?_, ?_, ?_⟩
    · rw [hd]; exact h16
    · rw [hd]; exact h15
    · rw [hd]; exact h0
theorem n5_n {c : Int32} (h : c < 52 ∨ 53 < c) : nxt 5 c = 0 := by
  rw [nx5, if_neg, bt_n]
  · rw [c_out] at h ⊢
    simp only [show (52 : Int32).toInt = 52 from rfl, show (53 : Int32).toInt = 53 from rfl] at h ⊢
    omega
  · rw [c_out] at h; rw [c_ne]
    simp only [show (52 : Int32).toInt = 52 from rfl, show (53 : Int32).toInt = 53 from rfl] at h ⊢
    omega
theorem n7_n {c : Int32} (h : c < 48 ∨ 51 < c) : nxt 7 c = 0 := by
  rw [nx7, if_neg, bt_n]
  · rw [c_out] at h ⊢
    simp only [show (48 : Int32).toInt = 48 from rfl, show (51 : Int32).toInt = 51 from rfl, show (50 : Int32).toInt = 50 from rfl] at h ⊢
    omega
  · rw [c_out] at h; rw [c_ne]
    simp only [show (48 : Int32).toInt = 48 from rfl, show (51 : Int32).toInt = 51 from rfl] at h ⊢
    omega
theorem two5 {c : Int32} (h : ¬ c < 52 ∧ ¬ 53 < c) : c = 52 ∨ c = 53 := by
  rw [c_rng] at h; rw [c_eq, c_eq]
  simp only [show (52 : Int32).toInt = 52 from rfl, show (53 : Int32).toInt = 53 from rfl] at h ⊢
  omega
theorem two7 {c : Int32} (h : ¬ c < 48 ∧ ¬ 51 < c) : c = 51 ∨ (¬ c = 51 ∧ ¬ c < 48 ∧ ¬ 50 < c) := by
  by_cases q : c = 51
  · exact Or.inl q
  · refine Or.inr ⟨q, ?_⟩
    rw [c_rng] at h ⊢
    rw [c_ne] at q
    simp only [show (48 : Int32).toInt = 48 from rfl, show (51 : Int32).toInt = 51 from rfl, show (50 : Int32).toInt = 50 from rfl] at h q ⊢
    omega
theorem c_nI {c : Int32} {a b : Nat} {A B : Int32} (hA : A.toInt = a) (hB : B.toInt = b) (h : ¬ c < A ∧ ¬ B < c) : ∃ j : Nat, a ≤ j ∧ j ≤ b ∧ c = nI j := by
  rw [c_rng, hA, hB] at h
  have hc := c.toInt_lt
  refine ⟨c.toInt.toNat, by omega, by omega, ?_⟩
  rw [c_eq, nI_toInt (by omega)]
  omega
theorem nI_48 {j : Nat} (h : 48 ≤ j) : nI j - 48 = nI (j - 48) := pk_sub (b := 48) h
theorem c_not {c d : Int32} {A B : Int32} (h : ¬ c < A ∧ ¬ B < c) (hd : d < A ∨ B < d) : ¬ c = d := by
  rw [c_rng] at h; rw [c_out] at hd; rw [c_ne]; omega
/-- where an order may end -/
def fin (B : Nat → Int32) (len e : Nat) : Prop := dfa B e = 16 ∨ (dfa B e = 15 ∧ (len ≤ e ∨ B e < 48 ∨ 57 < B e))
theorem fin_y {B : Nat → Int32} {len e : Nat} (h : fin B len e) (hb : B e = 59) : dfa B (e + 1) = 1 := by
  rcases h with h | ⟨h, -⟩
  · rw [df_s h, hb]; rfl
  · rw [df_s h, hb]; rfl
theorem fin_n {B : Nat → Int32} {len e : Nat} (h : fin B len e) (he : e < len) (hb : B e < 59 ∨ 59 < B e) : bad B len e := by
  refine Or.inr ⟨he, ?_, ?_⟩
  · rcases h with h | ⟨h, h2⟩
    · rw [df_s h, nx16, bt_n hb]
    · have hne : ¬ B e = 59 := by
        rw [c_out] at hb; rw [c_ne]; omega
      rw [df_s h, nx15, if_neg hne, bt_n (h2.resolve_left (by omega))]
  · rcases h with h | ⟨h, -⟩ <;> rw [h] <;> decide
theorem dfa_z {B : Nat → Int32} {p : Nat} (h : dfa B p = 0) : ∀ k, dfa B (p + k) = 0 := by
  intro k
  induction k with
  | zero => exact h
  | succ k ih => rw [← Nat.add_assoc, df_s ih, nx0]
theorem dfa_nz {B : Nat → Int32} {p k : Nat} (h : ¬ dfa B p = 0) (hk : k ≤ p) : ¬ dfa B k = 0 := fun q => h (by
  have := dfa_z q (p - k)
  rw [show k + (p - k) = p by omega] at this
  exact this)
theorem fwr_p {B : Nat → Int32} {p : Nat} (hnz : ¬ dfa B p = 0) : ∀ (m i : Nat), i ≤ p → (p = i + m ∨ (p < i + m ∧ dfa B (p + 1) = 0)) → fwr B i m = p := by
  intro m
  induction m with
  | zero => intro i h1 h2; rw [fwr]; omega
  | succ m ih =>
    intro i h1 h2
    rw [fwr]
    by_cases q : i = p
    · subst q
      rw [if_pos (h2.resolve_left (by omega)).2]
    · rw [if_neg (dfa_nz hnz (by omega))]
      exact ih (i + 1) (by omega) (h2.imp (fun h => by omega) (fun h => ⟨by omega, h.2⟩))
theorem bad_fwr {B : Nat → Int32} {len p : Nat} (h : bad B len p) : fwr B 0 len = p ∧ cObey B len = 1 := by
  rcases h with ⟨rfl, h16, h15, h0⟩ | ⟨hp, hz, h0⟩
  · exact ⟨fwr_p h0 p 0 (by omega) (Or.inl (by omega)), by rw [cObey, if_neg h16, if_neg h15]⟩
  · have hz' : dfa B len = 0 := by
      have := dfa_z hz (len - (p + 1))
      rw [show p + 1 + (len - (p + 1)) = len by omega] at this
      exact this
    exact ⟨fwr_p h0 len 0 (by omega) (Or.inr ⟨by omega, hz⟩), by rw [cObey, hz']; rfl⟩
theorem end_fwr {B : Nat → Int32} {len : Nat} (h : dfa B len = 16 ∨ dfa B len = 15) : fwr B 0 len = len ∧ cObey B len = 0 := by
  refine ⟨fwr_p (by rcases h with h | h <;> rw [h] <;> decide) len 0 (by omega) (Or.inl (by omega)), ?_⟩
  rw [cObey]
  rcases h with h | h <;> rw [h] <;> rfl
/-! an order as it is read -/
def ltr (c : Int32) : Prop := c = 115 ∨ c = 114 ∨ c = 104 ∨ c = 99 ∨ c = 111 ∨ c = 102 ∨ c = 116
/-- what stands in the two rows of numbers for the order from a to e whose letter is c -/
def ordR (B : Nat → Int32) (len : Nat) (c y2 y3 : Int32) (a e : Nat) : Prop :=
  a + 2 ≤ e ∧ e ≤ len ∧ (∀ k, a + 1 ≤ k → k < e → ¬ B k = 59) ∧
  (c = 116 → ∃ t : Nat, t ≤ 99 ∧ y2 = nI t ∧ nmb B len (a + 1) (e - (a + 1)) = nI t) ∧
  (¬ c = 116 → ∃ j : Nat, j < 4 ∧ (¬ c = 102 → j < 3) ∧ y2 = nI j ∧ nmb B len (a + 1) 1 = nI j) ∧
  (c = 102 → y3 = if cod B len (a + 2) = 43 then 1 else 0) ∧
  (c = 115 → a + 3 ≤ e ∧ ∃ v : Nat, v ≤ 600 ∧ y3 = nI (4700 + v) ∧ nmb B len (a + 3) (e - (a + 3)) = nI (4700 + v))
theorem nmb1 {B : Nat → Int32} {len p : Nat} (h : p < len) : nmb B len p 1 = B p - 48 := by
  rw [nmb, nmb, Nat.add_zero, cod_in h, show (10 : Int32) * 0 = 0 from rfl, Int32.zero_add]
theorem nmb_s {B : Nat → Int32} {len a k : Nat} {x : Nat} (h : a + k < len) (e : nmb B len a k = nI x) {d : Nat} (hd : 48 ≤ d) (hb : B (a + k) = nI d) : nmb B len a (k + 1) = nI (10 * x + (d - 48)) := by
  rw [nmb, e, cod_in h, hb, show (10 : Int32) = nI 10 from rfl, pk_mul, nI_add, nI_48 (by omega)]
  congr 1; omega
theorem dig_nI {c : Int32} {A B : Int32} {a b : Nat} (h : ¬ c < A ∧ ¬ B < c) (hA : A.toInt = a) (hB : B.toInt = b) (ha : 48 ≤ a) : ∃ d : Nat, a ≤ d ∧ d ≤ b ∧ c = nI d ∧ c - 48 = nI (d - 48) := by
  obtain ⟨d, h1, h2, h3⟩ := c_nI hA hB h
  exact ⟨d, h1, h2, h3, by rw [h3]; exact nI_48 (by omega)⟩
