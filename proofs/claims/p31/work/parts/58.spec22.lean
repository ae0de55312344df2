/-! where the object's and the model's cells lie -/
theorem BD.cb {D : va_G} {G : Nat → ClassId} {b b' : Nat → Nat} {R : Nat → Int32} {H : Heap} (h : BD D G b R H) (e : ∀ k, k < 11 → b k = b' k) : BD D G b' R H := by
  obtain ⟨h0, h1, h2, h3, h4, h5⟩ := h
  refine ⟨?_, ?_, ?_, ?_, fun i hi => ?_, fun i hi => ?_⟩
  · have e0 : bF b R = bF b' R := by simp only [bF, e 1 (by omega), e 2 (by omega), e 3 (by omega)]
    rw [← e 0 (by omega), ← e0]; exact h0
  · rw [← e 1 (by omega)]
    exact at_congq h1 (fun j hj => by rw [e (4 + j) (by omega)])
  · rw [← e 2 (by omega)]
    exact at_congq h2 (fun j hj => by rw [e (7 + j) (by omega)])
  · rw [← e 3 (by omega)]; exact h3
  · rw [← e (4 + i) (by omega)]; exact h4 i hi
  · rw [← e (7 + i) (by omega)]; exact h5 i hi
def al (N o k : Nat) : Nat := if k = 0 then N else if k = 114 then o else if k < 3 then N + 33 + k else if k < 5 then N + 99 + k else if k < 38 then N + k - 4 else if k < 104 then N + k - 2 else N + k
theorem al_h {N o k : Nat} (h1 : 1 ≤ k) (h2 : k < 3) : al N o k = N + 33 + k := by rw [al, if_neg (by omega), if_neg (by omega), if_pos h2]
theorem al_t {N o k : Nat} (h1 : 3 ≤ k) (h2 : k < 5) : al N o k = N + 99 + k := by rw [al, if_neg (by omega), if_neg (by omega), if_neg (by omega), if_pos h2]
theorem al_b {N o k : Nat} (h1 : 5 ≤ k) (h2 : k < 38) : al N o k = N + k - 4 := by rw [al, if_neg (by omega), if_neg (by omega), if_neg (by omega), if_neg (by omega), if_pos h2]
theorem al_s {N o k : Nat} (h1 : 38 ≤ k) (h2 : k < 104) : al N o k = N + k - 2 := by rw [al, if_neg (by omega), if_neg (by omega), if_neg (by omega), if_neg (by omega), if_neg (by omega), if_pos h2]
theorem al_m {N o k : Nat} (h1 : 104 ≤ k) (h2 : k < 114) : al N o k = N + k := by rw [al, if_neg (by omega), if_neg (by omega), if_neg (by omega), if_neg (by omega), if_neg (by omega), if_neg (by omega)]
theorem al_o {N o : Nat} : al N o 114 = o := rfl
theorem al_cs {N o k : Nat} (hk : k < 115) : (k = 0 ∧ al N o k = N) ∨ (1 ≤ k ∧ k < 3 ∧ al N o k = N + 33 + k) ∨ (3 ≤ k ∧ k < 5 ∧ al N o k = N + 99 + k) ∨ (5 ≤ k ∧ k < 38 ∧ al N o k = N + k - 4) ∨ (38 ≤ k ∧ k < 104 ∧ al N o k = N + k - 2) ∨ (104 ≤ k ∧ k < 114 ∧ al N o k = N + k) ∨ (k = 114 ∧ al N o k = o) := by
  rcases (show k = 0 ∨ (1 ≤ k ∧ k < 3) ∨ (3 ≤ k ∧ k < 5) ∨ (5 ≤ k ∧ k < 38) ∨ (38 ≤ k ∧ k < 104) ∨ (104 ≤ k ∧ k < 114) ∨ k = 114 by omega) with q | ⟨q, q2⟩ | ⟨q, q2⟩ | ⟨q, q2⟩ | ⟨q, q2⟩ | ⟨q, q2⟩ | q
  · exact Or.inl ⟨q, by rw [q]; rfl⟩
  · exact Or.inr (Or.inl ⟨q, q2, al_h q q2⟩)
  · exact Or.inr (Or.inr (Or.inl ⟨q, q2, al_t q q2⟩))
  · exact Or.inr (Or.inr (Or.inr (Or.inl ⟨q, q2, al_b q q2⟩)))
  · exact Or.inr (Or.inr (Or.inr (Or.inr (Or.inl ⟨q, q2, al_s q q2⟩))))
  · exact Or.inr (Or.inr (Or.inr (Or.inr (Or.inr (Or.inl ⟨q, q2, al_m q q2⟩)))))
  · exact Or.inr (Or.inr (Or.inr (Or.inr (Or.inr (Or.inr ⟨q, by rw [q]; rfl⟩)))))
theorem al_inj {N o : Nat} (ho : N + 114 ≤ o) : inj 115 (al N o) := by
  intro i j hi hj e
  have a := al_cs (N := N) (o := o) hi; have b := al_cs (N := N) (o := o) hj
  omega
theorem al_rng {N o k : Nat} (ho : N + 114 ≤ o) (hk : k < 115) : N ≤ al N o k ∧ al N o k ≤ o := by
  have a := al_cs (N := N) (o := o) hk
  omega
theorem bb_inj {a N : Nat} (h : a < N) : inj 10 (bb a N) := by
  intro i j hi hj e
  unfold bb at e
  split at e
  · split at e
    · omega
    · omega
  · split at e
    · omega
    · omega
/-- the object as it is made -/
theorem DP.mk0 {D : va_G} {G : Nat → ClassId} {N o : Nat} {H : Heap} (h0 : va_at D vwCl (N, .inr (5, [.ref (N + 1), .ref (N + 12), .ref (N + 23), .int 0, .ref (N + 34), .ref (N + 102)])) H)
    (b0 : BD D G (fun k => N + 1 + k) r0 H) (b1 : BD D G (fun k => N + 12 + k) r0 H) (b2 : BD D G (fun k => N + 23 + k) r0 H)
    (c0 : va_at D vwCl (N + 34, .inr (3, [.ref (N + 35), .int 0])) H) (c1 : va_at D vwCl (N + 35, .inl (G 3, 6, rfs (fun i => some (N + 36 + 11 * i)))) H) (c2 : ∀ i, i < 6 → BD D G (fun k => N + 36 + 11 * i + k) r0 H)
    (t0 : va_at D vwCl (N + 102, .inr (4, [.ref (N + 103), .int 0])) H) (t1 : va_at D vwCl (N + 103, .inl (G 0, 60, .inl (fun _ => 0))) H) : DP D G (al N o) (fun i => i) r0 r0 r0 0 (fun _ => r0) 0 (fun _ => 0) 0 H := by
  have e0 : ∀ j k, j < 3 → k < 11 → aB (al N o) j k = N + 1 + 11 * j + k := fun j k hj hk => by
    show al N o (5 + 11 * j + k) = _
    rw [al_b (by omega) (by omega)]; omega
  have e1 : ∀ j k, j < 6 → k < 11 → sB (al N o) j k = N + 36 + 11 * j + k := fun j k hj hk => by
    show al N o (5 + 11 * (3 + j) + k) = _
    rw [al_s (by omega) (by omega)]; omega
  have eh : ∀ k, k < 2 → hh (al N o) k = N + 34 + k := fun k hk => by
    show al N o (1 + k) = _
    rw [al_h (by omega) (by omega)]; omega
  have et : ∀ k, k < 2 → tx (al N o) k = N + 102 + k := fun k hk => by
    show al N o (3 + k) = _
    rw [al_t (by omega) (by omega)]; omega
  refine ⟨?_, b0.cb (fun k hk => ?_), b1.cb (fun k hk => ?_), b2.cb (fun k hk => ?_), ⟨?_, ?_, fun i hi => (c2 i hi).cb (fun k hk => ?_)⟩, ⟨?_, ?_⟩⟩
  · show va_at D vwCl (al N o 0, .inr (5, oF (al N o) 0)) H
    rw [oF, e0 0 0 (by omega) (by omega), e0 1 0 (by omega) (by omega), e0 2 0 (by omega) (by omega), eh 0 (by omega), et 0 (by omega)]
    exact h0
  · rw [e0 0 k (by omega) hk]
  · rw [e0 1 k (by omega) hk]
  · rw [e0 2 k (by omega) hk]
  · rw [eh 0 (by omega), eh 1 (by omega)]; exact c0
  · rw [eh 1 (by omega)]
    exact at_congq c1 (fun j hj => congrArg some (e1 j 0 hj (by omega)).symm)
  · rw [e1 i k hi hk]
  · rw [et 0 (by omega), et 1 (by omega)]; exact t0
  · rw [et 1 (by omega)]; exact t1
