/-! speeds and ticks as they are read; the row of orders -/
theorem d_3 {x : Int32} (h : x - 48 = 3) : x = 51 := by
  have := congrArg Int32.toInt h
  have h1 := x.toInt_lt; have h2 := x.le_toInt
  rw [Int32.toInt_sub, show (48 : Int32).toInt = 48 from rfl, show (3 : Int32).toInt = 3 from rfl] at this
  rw [c_eq, show (51 : Int32).toInt = 51 from rfl]
  simp only [Int.bmod_def] at this
  omega
theorem spd {B : Nat → Int32} {len p d1 d2 d3 d4 : Nat} (hl : p + 5 ≤ len) (h1 : B (p + 1) = nI d1) (h2 : B (p + 2) = nI d2) (h3 : B (p + 3) = nI d3) (h4 : B (p + 4) = nI d4) (g1 : 48 ≤ d1) (g2 : 48 ≤ d2) (g3 : 48 ≤ d3) (g4 : 48 ≤ d4) {x : Nat} (hx : x = 1000 * (d1 - 48) + 100 * (d2 - 48) + 10 * (d3 - 48) + (d4 - 48)) :
    1000 * (B (p + 1) - 48) + 100 * (B (p + 2) - 48) + 10 * (B (p + 3) - 48) + (B (p + 4) - 48) = nI x ∧ nmb B len (p + 1) 4 = nI x := by
  refine ⟨?_, ?_⟩
  · rw [h1, h2, h3, h4, nI_48 g1, nI_48 g2, nI_48 g3, nI_48 g4, show (1000 : Int32) = nI 1000 from rfl, show (100 : Int32) = nI 100 from rfl, show (10 : Int32) = nI 10 from rfl, pk_mul, pk_mul, pk_mul, nI_add, nI_add, nI_add, hx]
  · have e0 : nmb B len (p + 1) 0 = nI 0 := rfl
    have e1 := nmb_s (a := p + 1) (k := 0) (by omega) e0 g1 h1
    have e2 := nmb_s (a := p + 1) (k := 1) (by omega) e1 g2 h2
    have e3 := nmb_s (a := p + 1) (k := 2) (by omega) e2 g3 h3
    have e4 := nmb_s (a := p + 1) (k := 3) (by omega) e3 g4 h4
    rw [e4, hx]
    congr 1; omega
theorem spd4 {B : Nat → Int32} {len p : Nat} (hl : p + 5 ≤ len) (h1 : B (p + 1) = 52) (h2 : ¬ B (p + 2) < 55 ∧ ¬ 57 < B (p + 2)) (h3 : ¬ B (p + 3) < 48 ∧ ¬ 57 < B (p + 3)) (h4 : ¬ B (p + 4) < 48 ∧ ¬ 57 < B (p + 4)) :
    ∃ v : Nat, v ≤ 600 ∧ 1000 * (B (p + 1) - 48) + 100 * (B (p + 2) - 48) + 10 * (B (p + 3) - 48) + (B (p + 4) - 48) = nI (4700 + v) ∧ nmb B len (p + 1) 4 = nI (4700 + v) := by
  obtain ⟨d2, a2, b2, e2⟩ := c_nI (a := 55) (b := 57) rfl rfl h2
  obtain ⟨d3, a3, b3, e3⟩ := c_nI (a := 48) (b := 57) rfl rfl h3
  obtain ⟨d4, a4, b4, e4⟩ := c_nI (a := 48) (b := 57) rfl rfl h4
  have := spd (x := 4000 + 100 * (d2 - 48) + 10 * (d3 - 48) + (d4 - 48)) hl (d1 := 52) h1 e2 e3 e4 (by omega) (by omega) a3 a4 (by omega)
  refine ⟨4000 + 100 * (d2 - 48) + 10 * (d3 - 48) + (d4 - 48) - 4700, by omega, ?_⟩
  rw [show 4700 + (4000 + 100 * (d2 - 48) + 10 * (d3 - 48) + (d4 - 48) - 4700) = 4000 + 100 * (d2 - 48) + 10 * (d3 - 48) + (d4 - 48) by omega]
  exact this
theorem spd5 {B : Nat → Int32} {len p : Nat} (hl : p + 5 ≤ len) (h1 : B (p + 1) = 53) (h2 : ¬ B (p + 2) < 48 ∧ ¬ 50 < B (p + 2)) (h3 : ¬ B (p + 3) < 48 ∧ ¬ 57 < B (p + 3)) (h4 : ¬ B (p + 4) < 48 ∧ ¬ 57 < B (p + 4)) :
    ∃ v : Nat, v ≤ 600 ∧ 1000 * (B (p + 1) - 48) + 100 * (B (p + 2) - 48) + 10 * (B (p + 3) - 48) + (B (p + 4) - 48) = nI (4700 + v) ∧ nmb B len (p + 1) 4 = nI (4700 + v) := by
  obtain ⟨d2, a2, b2, e2⟩ := c_nI (a := 48) (b := 50) rfl rfl h2
  obtain ⟨d3, a3, b3, e3⟩ := c_nI (a := 48) (b := 57) rfl rfl h3
  obtain ⟨d4, a4, b4, e4⟩ := c_nI (a := 48) (b := 57) rfl rfl h4
  have := spd (x := 5000 + 100 * (d2 - 48) + 10 * (d3 - 48) + (d4 - 48)) hl (d1 := 53) h1 e2 e3 e4 (by omega) a2 a3 a4 (by omega)
  refine ⟨5000 + 100 * (d2 - 48) + 10 * (d3 - 48) + (d4 - 48) - 4700, by omega, ?_⟩
  rw [show 4700 + (5000 + 100 * (d2 - 48) + 10 * (d3 - 48) + (d4 - 48) - 4700) = 5000 + 100 * (d2 - 48) + 10 * (d3 - 48) + (d4 - 48) by omega]
  exact this
theorem spd3 {B : Nat → Int32} {len p : Nat} (hl : p + 5 ≤ len) (h1 : B (p + 1) = 53) (h2 : B (p + 2) = 51) (h3 : ¬ B (p + 3) < 48 ∧ ¬ 48 < B (p + 3)) (h4 : ¬ B (p + 4) < 48 ∧ ¬ 48 < B (p + 4)) :
    ∃ v : Nat, v ≤ 600 ∧ 1000 * (B (p + 1) - 48) + 100 * (B (p + 2) - 48) + 10 * (B (p + 3) - 48) + (B (p + 4) - 48) = nI (4700 + v) ∧ nmb B len (p + 1) 4 = nI (4700 + v) :=
  ⟨600, by omega, spd (x := 5300) hl (d1 := 53) (d2 := 51) (d3 := 48) (d4 := 48) h1 h2 (c_one h3) (c_one h4) (by omega) (by omega) (by omega) (by omega) (by omega)⟩
theorem no59_5 {B : Nat → Int32} {p : Nat} (h0 : ¬ B p = 59) (h1 : ¬ B (p + 1) = 59) (h2 : ¬ B (p + 2) = 59) (h3 : ¬ B (p + 3) = 59) (h4 : ¬ B (p + 4) = 59) : ∀ k, p ≤ k → k < p + 5 → ¬ B k = 59 := by
  intro k hk1 hk2
  rcases (show k = p ∨ k = p + 1 ∨ k = p + 2 ∨ k = p + 3 ∨ k = p + 4 by omega) with rfl | rfl | rfl | rfl | rfl
  · exact h0
  · exact h1
  · exact h2
  · exact h3
  · exact h4
theorem tck1 {B : Nat → Int32} {len p : Nat} (hl : p < len) (h1 : ¬ B p < 49 ∧ ¬ 57 < B p) : ∃ t : Nat, t ≤ 99 ∧ B p - 48 = nI t ∧ nmb B len p 1 = nI t := by
  obtain ⟨d, a, b, -, e⟩ := dig_nI (a := 49) (b := 57) h1 rfl rfl (by omega)
  exact ⟨d - 48, by omega, e, by rw [nmb1 hl, e]⟩
theorem tck2 {B : Nat → Int32} {len p : Nat} (hl : p + 1 < len) (h1 : ¬ B p < 49 ∧ ¬ 57 < B p) (h2 : ¬ B (p + 1) < 48 ∧ ¬ 57 < B (p + 1)) : ∃ t : Nat, t ≤ 99 ∧ 10 * (B p - 48) + (B (p + 1) - 48) = nI t ∧ nmb B len p 2 = nI t := by
  obtain ⟨d, a, b, f, e⟩ := dig_nI (a := 49) (b := 57) h1 rfl rfl (by omega)
  obtain ⟨d2, a2, b2, f2, e2⟩ := dig_nI (a := 48) (b := 57) h2 rfl rfl (by omega)
  have e1 : nmb B len p 1 = nI (d - 48) := by rw [nmb1 (by omega), e]
  refine ⟨10 * (d - 48) + (d2 - 48), by omega, ?_, nmb_s (k := 1) hl e1 a2 f2⟩
  rw [e, e2, show (10 : Int32) = nI 10 from rfl, pk_mul, nI_add]
/-- order k stands in the three rows, from a to e -/
def ordK (B : Nat → Int32) (len : Nat) (L1 L2 L3 : Nat → Int32) (k a e : Nat) : Prop := ordR B len (B a) (L2 k) (L3 k) a e ∧ L1 k = B a ∧ ltr (B a)
def chn (B : Nat → Int32) (len : Nat) (L1 L2 L3 : Nat → Int32) (o : Nat) (s : Nat → Nat) : Prop := s 0 = 0 ∧ ∀ k, k < o → ordK B len L1 L2 L3 k (s k) (s (k + 1) - 1) ∧ s k + 3 ≤ s (k + 1) ∧ s (k + 1) ≤ len + 1 ∧ (k + 1 < o → B (s (k + 1) - 1) = 59)
theorem chn_le {B : Nat → Int32} {len : Nat} {L1 L2 L3 : Nat → Int32} {o : Nat} {s : Nat → Nat} (h : chn B len L1 L2 L3 o s) : ∀ k, k ≤ o → 3 * k ≤ s k := by
  intro k
  induction k with
  | zero => intro _; omega
  | succ k ih =>
    intro hk
    have := ih (by omega)
    have := (h.2 k (by omega)).2.1
    omega
def ext (s : Nat → Nat) (o x : Nat) : Nat → Nat := fun k => if k ≤ o then s k else x
theorem chn_add {B : Nat → Int32} {len : Nat} {L1 L2 L3 L1' L2' L3' : Nat → Int32} {o e : Nat} {s : Nat → Nat} (h : chn B len L1 L2 L3 o s) (hk : ordK B len L1' L2' L3' o (s o) e) (hb : 0 < o → B (s o - 1) = 59) (ha : ∀ k, ¬ k = o → L1' k = L1 k ∧ L2' k = L2 k ∧ L3' k = L3 k) : chn B len L1' L2' L3' (o + 1) (ext s o (e + 1)) ∧ ext s o (e + 1) (o + 1) = e + 1 := by
  have e2 : ext s o (e + 1) (o + 1) = e + 1 := if_neg (by omega)
  have e1 : ∀ k, k ≤ o → ext s o (e + 1) k = s k := fun k q => if_pos q
  refine ⟨⟨by rw [e1 0 (by omega)]; exact h.1, fun k q => ?_⟩, e2⟩
  by_cases w : k = o
  · subst w
    rw [e1 k (by omega), e2, Nat.add_sub_cancel]
    have h1 := hk.1.1; have h2 := hk.1.2.1
    exact ⟨hk, by omega, by omega, fun z => by omega⟩
  · rw [e1 k (by omega), e1 (k + 1) (by omega)]
    obtain ⟨a, b, c, d⟩ := h.2 k (by omega)
    refine ⟨?_, b, c, fun z => ?_⟩
    rotate_left
    · by_cases v : k + 1 < o
      · exact d v
      · have v2 : k + 1 = o := by omega
        rw [v2]; exact hb (by omega)
    obtain ⟨q1, q2, q3⟩ := ha k w
    rw [ordK, q1, q2, q3]
    exact a
theorem chn_0 {B : Nat → Int32} {len : Nat} {L1 L2 L3 : Nat → Int32} : chn B len L1 L2 L3 0 (fun _ => 0) := ⟨rfl, fun k h => by omega⟩
theorem lt_sp {p len : Nat} (hl : len ≤ 60) (hp : p ≤ len) (c : ¬ nI len ≤ nI p) : p < len := Nat.lt_of_not_le (fun q => c (nI_le q (by omega)))
theorem ge_sp {p len : Nat} (hl : len ≤ 60) (hp : p ≤ len) (c : nI len ≤ nI p) : len ≤ p := (nI_leI (by omega) (by omega)).mp c
theorem sR_nn {v a b : Int32} (h : (if v < a then (0 : Int32) else if b < v then 0 else 1) = 0) : v < a ∨ b < v := by
  by_cases q : v < a
  · exact Or.inl q
  · rw [if_neg q] at h
    by_cases q2 : b < v
    · exact Or.inr q2
    · rw [if_neg q2] at h; exact absurd h (by decide)
theorem n13_n {c : Int32} (h : (c < 43 ∨ 43 < c) ∧ (c < 45 ∨ 45 < c)) : nxt 13 c = 0 := by
  rw [nx13, if_neg, bt_n h.1]
  intro q
  rw [q] at h
  exact absurd h.2 (by decide)
theorem aft_no {c : Int32} (h1 : ¬ c = 115) (h2 : ¬ c = 114) (h3 : ¬ c = 104) (h4 : ¬ c = 99) (h5 : ¬ c = 111) (h6 : ¬ c = 102) (h7 : ¬ c = 116) : aftl c = 0 := by
  rw [aftl, if_neg h1, if_neg h2, if_neg h3, if_neg h4, if_neg h5, if_neg h6, if_neg h7]
theorem or_q {p len : Nat} {X Y : Prop} (h : len ≤ p ∨ X) (g : len ≤ p ∨ Y) : len ≤ p ∨ (X ∧ Y) := by
  rcases h with h | h
  · exact Or.inl h
  · rcases g with g | g
    · exact Or.inl g
    · exact Or.inr ⟨h, g⟩
theorem set_nI {B : Nat → Int32} {len p : Nat} {b : Nat} {N : Int32} (hN : N.toInt = b) (hb : b ≤ 51) (hl : p < len) (h : ¬ B p < 48 ∧ ¬ N < B p) : ∃ j : Nat, j ≤ b - 48 ∧ B p - 48 = nI j ∧ nmb B len p 1 = nI j := by
  obtain ⟨d, a, b', -, e⟩ := dig_nI (a := 48) (b := b) h rfl hN (by omega)
  exact ⟨d - 48, by omega, e, by rw [nmb1 hl, e]⟩
