/-! what may be told in bits -/
def okD (x : UInt64) : Prop := x = FP.dconst0 ∨ ∃ e t, 1 ≤ e ∧ e < 2047 ∧ t < 4503599627370496 ∧ x = dE e t
def okF (x : UInt32) : Prop := x = FP.fconst0 ∨ ∃ e t, 1 ≤ e ∧ e < 255 ∧ t < 8388608 ∧ x = fE e t
def ldsh (R : Nat → Int32) : UInt64 := if rat R 3 = 0 then FP.dconst0 else FP.ddiv (FP.i2d (ld R)) (FP.i2d (rat R 3))
def mnpw (R : Nat → Int32) : UInt32 := if R 4 = 0 then FP.fconst0 else FP.fdiv (FP.i2f (R 7)) (FP.i2f (R 4))
theorem okD_n {x : UInt64} (h : okD x) : vf_n64 x := by
  rcases h with rfl | ⟨e, t, h1, h2, ht, rfl⟩
  · unfold vf_n64; decide
  · exact dE_n h2 ht
theorem okF_n {x : UInt32} (h : okF x) : vf_n32 x := by
  rcases h with rfl | ⟨e, t, h1, h2, ht, rfl⟩
  · unfold vf_n32; decide
  · exact fE_n h2 ht
theorem lv_ldcwF {p : Program} {l : Launch} {e : Env} {R : Room} {s : State} {m : MethodId} {args : Array Value} {below : List Frame} {meth : Method} {c : Code} {H : Heap} {locs : List Loc} {cells slots : Nat} {Q : State → Prop} {cc : ByteArray} {pc : Nat} {ls : Array Slot} {rest : List Value} (hexec : p.tables.exec = Jvm.exec) (hb : c.code = cc) {own : String} {index : Nat} {v : UInt32} (hown : s.vm.findClass own = some m.cls) (hconst : (Jvm.Cond.constantFloat own index v).before args s = true) (hdg : decode cc pc = .ok (.ldc_w index, 3)) (k : W p l e R s m args below meth c H locs cells slots Q (F0 m (pc + 3) ls (.float v :: rest))) : W p l e R s m args below meth c H locs cells slots Q (F0 m pc ls rest) := by
  intro T hT X
  obtain ⟨t, a, b⟩ := k T hT X
  refine ⟨t, ?_, b⟩
  obtain ⟨k0, cf, hk, hcf, hcp⟩ := Cond.constantFloat_spec hown hconst
  obtain ⟨k', hk', he⟩ := X.warmed.alike.2.2 _ _ hk
  jvm_step X.here [hexec, hb, hdg, ldc_w.wp_float (s := T) (f := F0 m pc ls rest) X.here.top hk' (by rw [he]; exact hcf) hcp]
  exact a
