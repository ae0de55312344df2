/-! what the law's loop needs of footprints -/
section LMN
variable {D : va_G} {G : Nat → ClassId} {α : Nat → Nat} {R R1 R2 P P1 : Nat → Int32} {H H1 : Heap} {N : Nat}
theorem at_ge (h : ∀ k, k < 115 → N ≤ α k) : ∀ q, AT α q → N ≤ q := fun q hq => by
  obtain ⟨k, hk, e⟩ := hq
  rw [e]; exact h k (by omega)
theorem au_ge (h : ∀ k, k < 115 → N ≤ α k) : ∀ q, AU α q → N ≤ q := fun q hq => by
  obtain ⟨k, hk, e⟩ := hq
  rw [e]; exact h k (by omega)
/-- behind a call on object and first rows the second rows have the new p -/
theorem LB.mixT (h : LB D G (ln α) R2 P H) (hα : inj 115 α) (h2 : LB D G (lm α) R1 P1 H1) (hk : ∀ q : Nat, q < H.size → ¬ AT α q → H1[q]? = H[q]?) : LB D G (ln α) R2 P1 H1 := by
  have kp : ∀ k, k < 3 → H1[ln α k]? = H[ln α k]? := fun k hk3 => hk _ (h.lt k (by omega)) (by
    rintro ⟨i, hi, e⟩
    obtain ⟨r, g1, g2, g3, -, g5⟩ := ln_at (α := α) (k := k) (by omega)
    have h5 := g5 hk3
    have := hα _ _ (by omega) (by omega) (g3.symm.trans e)
    omega)
  exact ⟨h.1.kept (kp 0 (by omega)), h.2.1.kept (kp 1 (by omega)), h.2.2.1.kept (kp 2 (by omega)), h2.2.2.2⟩
theorem fR_0 (k : Nat) : fR (fun _ => 0) k = 0 := by
  unfold fR
  split
  · rfl
  · split <;> rfl
/-- four fresh rows -/
theorem LB.mk0 {μ : Nat → Nat} (h0 : va_at D vwCl (μ 0, .inl (G 0, 30, .inl (fun _ => 0))) H) (h1 : va_at D vwCl (μ 1, .inl (G 0, 12, .inl (fun _ => 0))) H) (h2 : va_at D vwCl (μ 2, .inl (G 0, 8, .inl (fun _ => 0))) H) (h3 : va_at D vwCl (μ 3, .inl (G 0, 4, .inl (fun _ => 0))) H) : LB D G μ (fun _ => 0) (fun _ => 0) H :=
  ⟨h0, at_congr h1 (fun j _ => (fR_0 j).symm), h2, h3⟩
theorem r0_gw : gw r0 := by
  refine ⟨r0_gd, fun i hi => ⟨0, by decide, ?_⟩, by show r0 16 + r0 26 + r0 36 = r0 7; decide⟩
  rcases (show i = 0 ∨ i = 1 ∨ i = 2 by omega) with rfl | rfl | rfl <;> rfl
theorem vx_lt2 {b L : Nat} {xs : Nat → Int32} {U : State} {H : Heap} (h : va_X b L xs U H) : b < H.size := by
  obtain ⟨scr, h0, -⟩ := h
  exact (Array.getElem?_eq_some_iff.mp h0).1
end LMN
