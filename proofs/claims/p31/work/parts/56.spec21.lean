/-! boards as they are made -/
theorem BD.mk9 {D : va_G} {G : Nat → ClassId} {b : Nat → Nat} {R : Nat → Int32} {H : Heap} (h0 : va_at D vwCl (b 0, .inr (0, bF b R)) H) (h1 : va_at D vwCl (b 1, .inl (G 1, 3, rfs (fun i => some (b (4 + i))))) H) (h2 : va_at D vwCl (b 2, .inl (G 2, 4, rfs (fun i => some (b (7 + i))))) H) (h3 : va_at D vwCl (b 3, .inl (G 0, 4, .inl R)) H)
    (d0 : va_at D vwCl (b 4, .inr (1, dF R 0)) H) (d1 : va_at D vwCl (b 5, .inr (1, dF R 1)) H) (d2 : va_at D vwCl (b 6, .inr (1, dF R 2)) H) (g0 : va_at D vwCl (b 7, .inr (2, fF R 0)) H) (g1 : va_at D vwCl (b 8, .inr (2, fF R 1)) H) (g2 : va_at D vwCl (b 9, .inr (2, fF R 2)) H) (g3 : va_at D vwCl (b 10, .inr (2, fF R 3)) H) : BD D G b R H := by
  refine ⟨h0, h1, h2, h3, fun i hi => ?_, fun i hi => ?_⟩
  · match i, hi with
    | 0, _ => exact d0
    | 1, _ => exact d1
    | 2, _ => exact d2
  · match i, hi with
    | 0, _ => exact g0
    | 1, _ => exact g1
    | 2, _ => exact g2
    | 3, _ => exact g3
theorem bb_at {N : Nat} : bb N (N + 1) = fun k => N + k := by
  funext k
  unfold bb
  split
  · omega
  · omega
theorem at_up3 {D : va_G} {cl : List vw_C} {a : Nat} {cA : ClassId} {f : Nat → Option Nat} {x y z : Nat} {H : Heap} (h : va_at D cl (a, .inl (cA, 3, rfs (va_up (va_up (va_up (fun _ => none) 0 (some x)) 1 (some y)) 2 (some z)))) H) (h0 : f 0 = some x) (h1 : f 1 = some y) (h2 : f 2 = some z) : va_at D cl (a, .inl (cA, 3, rfs f)) H := by
  refine at_congq h (fun j hj => ?_)
  rcases (show j = 0 ∨ j = 1 ∨ j = 2 by omega) with rfl | rfl | rfl
  · rw [h0]; rfl
  · rw [h1]; rfl
  · rw [h2]; rfl
theorem at_up4 {D : va_G} {cl : List vw_C} {a : Nat} {cA : ClassId} {f : Nat → Option Nat} {x y z u : Nat} {H : Heap} (h : va_at D cl (a, .inl (cA, 4, rfs (va_up (va_up (va_up (va_up (fun _ => none) 0 (some x)) 1 (some y)) 2 (some z)) 3 (some u)))) H) (h0 : f 0 = some x) (h1 : f 1 = some y) (h2 : f 2 = some z) (h3 : f 3 = some u) : va_at D cl (a, .inl (cA, 4, rfs f)) H := by
  refine at_congq h (fun j hj => ?_)
  rcases (show j = 0 ∨ j = 1 ∨ j = 2 ∨ j = 3 by omega) with rfl | rfl | rfl | rfl
  · rw [h0]; rfl
  · rw [h1]; rfl
  · rw [h2]; rfl
  · rw [h3]; rfl
theorem at_up6 {D : va_G} {cl : List vw_C} {a : Nat} {cA : ClassId} {f : Nat → Option Nat} {x0 x1 x2 x3 x4 x5 : Nat} {H : Heap} (h : va_at D cl (a, .inl (cA, 6, rfs (va_up (va_up (va_up (va_up (va_up (va_up (fun _ => none) 0 (some x0)) 1 (some x1)) 2 (some x2)) 3 (some x3)) 4 (some x4)) 5 (some x5)))) H) (h0 : f 0 = some x0) (h1 : f 1 = some x1) (h2 : f 2 = some x2) (h3 : f 3 = some x3) (h4 : f 4 = some x4) (h5 : f 5 = some x5) : va_at D cl (a, .inl (cA, 6, rfs f)) H := by
  refine at_congq h (fun j hj => ?_)
  rcases (show j = 0 ∨ j = 1 ∨ j = 2 ∨ j = 3 ∨ j = 4 ∨ j = 5 by omega) with rfl | rfl | rfl | rfl | rfl | rfl
  · rw [h0]; rfl
  · rw [h1]; rfl
  · rw [h2]; rfl
  · rw [h3]; rfl
  · rw [h4]; rfl
  · rw [h5]; rfl
theorem set_r0 {D : va_G} {cl : List vw_C} {a : Nat} {cA : ClassId} {H : Heap} (h : va_at D cl (a, .inl (cA, 4, .inl (upd (upd (upd (upd (fun _ => 0) 0 3) 1 2) 2 10) 3 30))) H) : va_at D cl (a, .inl (cA, 4, .inl r0)) H := by
  refine at_congr h (fun j hj => ?_)
  rcases (show j = 0 ∨ j = 1 ∨ j = 2 ∨ j = 3 by omega) with rfl | rfl | rfl | rfl <;> rfl
