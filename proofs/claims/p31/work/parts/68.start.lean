/-! what holds at the law's entry, as the walk takes it -/
theorem st_arr {args : Array Value} {s : State} {ty : FieldType} (h : (Cond.arrayClass ty).before args s = true) : ∃ cA, ArrOfT s cA ty ∧ s.vm.findClass ("[" ++ ty.toString) = some cA := by
  obtain ⟨c, k, comp, h1, h2, h3⟩ := Cond.arrayClass_spec h
  exact ⟨c, fun n z => ⟨fun k h => (by cases h), k, h2, comp, h3⟩, h1⟩
theorem st_arrO {args : Array Value} {s : State} {C : String} (h : (Cond.arrayOver (.object C)).before args s = true) : ∃ cA, ArrOfT s cA (.object C) ∧ va_RA s cA (.object C) := by
  obtain ⟨comp, c, k, h1, h2, h3, h4, h5⟩ := Cond.arrayOver_spec h
  exact ⟨c, fun n z => ⟨fun k h => (by cases h), k, h3, comp, h4⟩, k, comp, h3, h4, h1, h5⟩
section STW
variable {s : State} {b : Nat}
theorem st_G (hts : ∀ w ∈ lw_tbl, w.before #[Value.ref b] s = true) : ∃ G : Nat → ClassId, ∀ (k : Nat) (q : ClassId × FieldType), (tyS G)[k]? = some q → ArrOfT s q.1 q.2 ∧ va_RA s q.1 q.2 := by
  obtain ⟨g0, a0, b0⟩ := st_arr (hts (.arrayClass .int) (by decide +kernel))
  obtain ⟨g1, a1, b1⟩ := st_arrO (hts (.arrayOver (.object RX1)) (by decide +kernel))
  obtain ⟨g2, a2, b2⟩ := st_arrO (hts (.arrayOver (.object RX2)) (by decide +kernel))
  obtain ⟨g3, a3, b3⟩ := st_arrO (hts (.arrayOver (.object RX0)) (by decide +kernel))
  refine ⟨fun k => if k = 0 then g0 else if k = 1 then g1 else if k = 2 then g2 else g3, fun k q hq => ?_⟩
  rcases (show k = 0 ∨ k = 1 ∨ k = 2 ∨ k = 3 ∨ 4 ≤ k by omega) with rfl | rfl | rfl | rfl | h5
  · obtain rfl := Option.some.inj hq; exact ⟨a0, b0⟩
  · obtain rfl := Option.some.inj hq; exact ⟨a1, b1⟩
  · obtain rfl := Option.some.inj hq; exact ⟨a2, b2⟩
  · obtain rfl := Option.some.inj hq; exact ⟨a3, b3⟩
  · rw [List.getElem?_eq_none (by show 4 ≤ k; exact h5)] at hq; cases hq
theorem st_D (hts : ∀ w ∈ lw_tbl, w.before #[Value.ref b] s = true) : ∃ D : va_G, ∀ (c : Nat) (q : vw_C), vwCl[c]? = some q → u_Kn s q.1 q.2.1 q.2.2 (D.1 c) (D.2 c) := by
  have hl : ∀ w ∈ wsL_law, w.before #[Value.ref b] s = true := fun w h => hts w (lawIn w h)
  obtain ⟨c0, i0, k0⟩ := u_known (C := RX0) (T := TX0) (N := 5) hl inlX0 (hts (.instantiable RX0 5) (by decide +kernel))
  obtain ⟨c1, i1, k1⟩ := u_known (C := RX1) (T := TX1) (N := 10) hl inlX1 (hts (.instantiable RX1 10) (by decide +kernel))
  obtain ⟨c2, i2, k2⟩ := u_known (C := RX2) (T := TX2) (N := 3) hl inlX2 (hts (.instantiable RX2 3) (by decide +kernel))
  obtain ⟨c3, i3, k3⟩ := u_known (C := RX3) (T := TX3) (N := 2) hl inlX3 (hts (.instantiable RX3 2) (by decide +kernel))
  obtain ⟨c4, i4, k4⟩ := u_known (C := RX4) (T := TX4) (N := 2) hl inlX4 (hts (.instantiable RX4 2) (by decide +kernel))
  obtain ⟨c5, i5, k5⟩ := u_known (C := RX5) (T := TX5) (N := 6) hl inlX5 (hts (.instantiable RX5 6) (by decide +kernel))
  refine ⟨(fun k => if k = 0 then c0 else if k = 1 then c1 else if k = 2 then c2 else if k = 3 then c3 else if k = 4 then c4 else c5, fun k => if k = 0 then i0 else if k = 1 then i1 else if k = 2 then i2 else if k = 3 then i3 else if k = 4 then i4 else i5), fun k q hq => ?_⟩
  rcases (show k = 0 ∨ k = 1 ∨ k = 2 ∨ k = 3 ∨ k = 4 ∨ k = 5 ∨ 6 ≤ k by omega) with rfl | rfl | rfl | rfl | rfl | rfl | h7
  · obtain rfl := Option.some.inj hq; exact k0
  · obtain rfl := Option.some.inj hq; exact k1
  · obtain rfl := Option.some.inj hq; exact k2
  · obtain rfl := Option.some.inj hq; exact k3
  · obtain rfl := Option.some.inj hq; exact k4
  · obtain rfl := Option.some.inj hq; exact k5
  · rw [List.getElem?_eq_none (by show 6 ≤ k; exact h7)] at hq; cases hq
theorem st_NW (hts : ∀ w ∈ lw_tbl, w.before #[Value.ref b] s = true) : NW s :=
  ⟨va_Nw.of rfl (hts (.methodLinkNest RX0 127 yX5_oneIf "DroopBoard") (by decide +kernel)), va_Nw.of rfl (hts (.methodLinkNest RX0 30 yX2_init "DroopBoard") (by decide +kernel)), va_Nw.of rfl (hts (.methodLinkNest RX5 31 yX4_init "DroopBoard") (by decide +kernel))⟩
theorem st_AO (hts : ∀ w ∈ lw_tbl, w.before #[Value.ref b] s = true) : AO3 s :=
  ⟨va_AO.of (hts (.arrayOver (.object RX1)) (by decide +kernel)), va_AO.of (hts (.arrayOver (.object RX2)) (by decide +kernel)), va_AO.of (hts (.arrayOver (.object RX0)) (by decide +kernel))⟩
theorem st_tab {nm : String} {f : Nat → Int32} (hl : (Cond.laysStatic RX5 nm "[I").before #[Value.ref b] s = true) (hi : (Cond.initialized RX5).before #[Value.ref b] s = true) (ha : (Cond.arrayOf (.static RX5 nm "[I") .int).before #[Value.ref b] s = true) (hn : (Cond.eq (.length (.static RX5 nm "[I")) (.int 4)).before #[Value.ref b] s = true) (h0 : (Cond.eq (.elem (.static RX5 nm "[I") (.int 0)) (.int (f 0))).before #[Value.ref b] s = true) (h1 : (Cond.eq (.elem (.static RX5 nm "[I") (.int 1)) (.int (f 1))).before #[Value.ref b] s = true) (h2 : (Cond.eq (.elem (.static RX5 nm "[I") (.int 2)) (.int (f 2))).before #[Value.ref b] s = true) (h3 : (Cond.eq (.elem (.static RX5 nm "[I") (.int 3)) (.int (f 3))).before #[Value.ref b] s = true) : stA nm f (fun q => s.heap.size ≤ q) s s.heap := by
  obtain ⟨t, ht, hT⟩ := va_Tof (tm := .static RX5 nm "[I") (ty := .int) (N := 4) (f := fun j => .int (f j)) (A := fun q => s.heap.size ≤ q) (by decide) ha (va_eqt hn) (fun j hj => by
    rcases (show j = 0 ∨ j = 1 ∨ j = 2 ∨ j = 3 by omega) with rfl | rfl | rfl | rfl
    · exact va_eqt h0
    · exact va_eqt h1
    · exact va_eqt h2
    · exact va_eqt h3) (fun a h => Nat.not_le.mpr h)
  exact ⟨t, va_Zof hl hi ht (fun a h => Nat.not_le.mpr h), hT⟩
set_option maxRecDepth 100000 in
theorem st_ST2 (hts : ∀ w ∈ lw_tbl, w.before #[Value.ref b] s = true) (hgv : (Jvm.Cond.and given_1 narrow_1).before #[Value.ref b] s = true) : ST2 (fun q => s.heap.size ≤ q) s s.heap := by
  have hs := flat_of_before _ hgv
  have hi : (Cond.initialized RX5).before #[Value.ref b] s = true := hts _ (by decide +kernel)
  exact ⟨st_tab (hts _ (by decide +kernel)) hi (hs _ (by decide +kernel)) (hs _ (by decide +kernel)) (hs _ (by decide +kernel)) (hs _ (by decide +kernel)) (hs _ (by decide +kernel)) (hs _ (by decide +kernel)), st_tab (hts _ (by decide +kernel)) hi (hs _ (by decide +kernel)) (hs _ (by decide +kernel)) (hs _ (by decide +kernel)) (hs _ (by decide +kernel)) (hs _ (by decide +kernel)) (hs _ (by decide +kernel))⟩
end STW
