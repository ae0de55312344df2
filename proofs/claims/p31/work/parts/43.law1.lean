set_option maxHeartbeats 600000 in
set_option maxRecDepth 100000 in
theorem c_L_low (l : Launch) (D : va_G) (G : Nat → ClassId) (x : Int32) (n : Nat) (H : Heap)  (h0 : 0 < n) (hn : n < 2 ^ 31) : Met l yL_low wsL_low ({ frames := 0, cells := 0, slots := 0, locals := 0 } : Room) (va_Pc [.int x, .int (nI n)] (CX D G H)) (QI nA (fun r h => H = h ∧ nI (low x n) = r)) 0 0 (nA) := by
  refine Met.ofW (cc := cL_low) (maxL := 2) (ret := (some .int)) (by decide) rfl ?_
  intro p e s m args below meth c s₁ B0 hml hv
  obtain ⟨rfl, rfl, hK, hN⟩ := hv
  have hx := B0.exec
  have hb := B0.bytes
  have hr := B0.returns
  have hts := atoms_spec (ws := wsL_low) B0.pre
  have hown : s.vm.findClass RL = some m.cls := findClass_of_methodNamed B0.named
  have hlocks := B0.notSynchronized
  have hF : CallFix p m c cL_low 2 s ([.int x, .int (nI n)] : List Value).toArray wsL_low RL := ⟨hx, hb, hml, hown, hts⟩
  have hS : va_S (nA) s.heap s.heap [] := va_S.rf
  have hl := lv_entry ([.int x, .int (nI n)]) (n := 2) (Nat.le_of_ble_eq_true rfl)
  rw [lg_entry_eq]
  generalize (lg_sl ([.int x, .int (nI n)]) ++ List.replicate (2 - (lg_sl ([.int x, .int (nI n)])).length) Slot.unset).toArray = ls at hl ⊢
  have hl : lv_has ls 2 [(0, .int x), (1, .int (nI n))] := hl
  refine lv_iload_n hx hb dL_low_0 rfl (lv_at hl 0 rfl) ?_
  refine lv_ldc (v := (2147483647)) hx hb hown (hts (.constant RL 8 (2147483647)) (List.mem_of_getElem? (i := 1) rfl)) dL_low_1 ?_
  refine lv_iand hx hb dL_low_3 ?_
  refine lv_iload_n hx hb dL_low_4 rfl (lv_at hl 1 rfl) ?_
  refine lv_irem hx hb dL_low_5 (fun q => absurd ((nI_z hn).mp q) (by omega)) ?_
  exact W.iret hx hb hr (fun t ht hW => ⟨⟨(x &&& 2147483647) - (x &&& 2147483647) / (nI n) * (nI n), s.heap, rfl, ⟨rfl, (low_e h0 hn).symm⟩, ht⟩, hS.F ht⟩) hS.2.2 dL_low_6

set_option maxHeartbeats 600000 in
set_option maxRecDepth 100000 in
theorem c_L_size (l : Launch) (D : va_G) (G : Nat → ClassId) (x : Int32) (H : Heap)  : Met l yL_size wsL_size ({ frames := 0, cells := 0, slots := 0, locals := 0 } : Room) (va_Pc [.int x] (CX D G H)) (QI nA (fun r h => H = h ∧ ab x = r)) 0 0 (nA) := by
  refine Met.ofW (cc := cL_size) (maxL := 1) (ret := (some .int)) (by decide) rfl ?_
  intro p e s m args below meth c s₁ B0 hml hv
  obtain ⟨rfl, rfl, hK, hN⟩ := hv
  have hx := B0.exec
  have hb := B0.bytes
  have hr := B0.returns
  have hts := atoms_spec (ws := wsL_size) B0.pre
  have hown : s.vm.findClass RL = some m.cls := findClass_of_methodNamed B0.named
  have hlocks := B0.notSynchronized
  have hF : CallFix p m c cL_size 1 s ([.int x] : List Value).toArray wsL_size RL := ⟨hx, hb, hml, hown, hts⟩
  have hS : va_S (nA) s.heap s.heap [] := va_S.rf
  have hl := lv_entry ([.int x]) (n := 1) (Nat.le_of_ble_eq_true rfl)
  rw [lg_entry_eq]
  generalize (lg_sl ([.int x]) ++ List.replicate (1 - (lg_sl ([.int x])).length) Slot.unset).toArray = ls at hl ⊢
  have hl : lv_has ls 1 [(0, .int x)] := hl
  refine lv_iload_n hx hb dL_size_0 rfl (lv_at hl 0 rfl) ?_
  refine lv_if_ge (tgt := 9) hx hb dL_size_1 (by decide) (fun c1 => ?_) (fun c1 => ?_)
  · refine lv_iload_n hx hb dL_size_9 rfl (lv_at hl 0 rfl) ?_
    exact W.iret hx hb hr (fun t ht hW => ⟨⟨x, s.heap, rfl, ⟨rfl, (ab_n c1).symm⟩, ht⟩, hS.F ht⟩) hS.2.2 dL_size_10
  refine lv_iload_n hx hb dL_size_4 rfl (lv_at hl 0 rfl) ?_
  refine lv_ineg hx hb dL_size_5 ?_
  refine lv_goto (tgt := 10) hx hb dL_size_6 (by decide) ?_
  exact W.iret hx hb hr (fun t ht hW => ⟨⟨-x, s.heap, rfl, ⟨rfl, (ab_m c1).symm⟩, ht⟩, hS.F ht⟩) hS.2.2 dL_size_10

set_option maxHeartbeats 600000 in
set_option maxRecDepth 100000 in
theorem c_L_lamps (l : Launch) (D : va_G) (G : Nat → ClassId) (x : Int32) (H : Heap)  : Met l yL_lamps wsL_lamps ({ frames := 0, cells := 0, slots := 0, locals := 0 } : Room) (va_Pc [.int x] (CX D G H)) (QI nA (fun r h => H = h ∧ lmp x = r)) 0 0 (nA) := by
  refine Met.ofW (cc := cL_lamps) (maxL := 1) (ret := (some .int)) (by decide) rfl ?_
  intro p e s m args below meth c s₁ B0 hml hv
  obtain ⟨rfl, rfl, hK, hN⟩ := hv
  have hx := B0.exec
  have hb := B0.bytes
  have hr := B0.returns
  have hts := atoms_spec (ws := wsL_lamps) B0.pre
  have hown : s.vm.findClass RL = some m.cls := findClass_of_methodNamed B0.named
  have hlocks := B0.notSynchronized
  have hF : CallFix p m c cL_lamps 1 s ([.int x] : List Value).toArray wsL_lamps RL := ⟨hx, hb, hml, hown, hts⟩
  have hS : va_S (nA) s.heap s.heap [] := va_S.rf
  have hl := lv_entry ([.int x]) (n := 1) (Nat.le_of_ble_eq_true rfl)
  rw [lg_entry_eq]
  generalize (lg_sl ([.int x]) ++ List.replicate (1 - (lg_sl ([.int x])).length) Slot.unset).toArray = ls at hl ⊢
  have hl : lv_has ls 1 [(0, .int x)] := hl
  refine lv_iload_n hx hb dL_lamps_0 rfl (lv_at hl 0 rfl) ?_
  refine lv_sipush (v := 500) hx hb dL_lamps_1 (by decide) ?_
  refine lv_icmp_le (tgt := 15) hx hb dL_lamps_4 (by decide) (fun c1 => ?_) (fun c1 => ?_)
  · refine lv_iload_n hx hb dL_lamps_15 rfl (lv_at hl 0 rfl) ?_
    exact W.iret hx hb hr (fun t ht hW => ⟨⟨x, s.heap, rfl, ⟨rfl, by rw [lmp, if_neg (Int32.not_lt.mpr c1)]⟩, ht⟩, hS.F ht⟩) hS.2.2 dL_lamps_16
  refine lv_sipush (v := 1000) hx hb dL_lamps_7 (by decide) ?_
  refine lv_iload_n hx hb dL_lamps_10 rfl (lv_at hl 0 rfl) ?_
  refine lv_isub hx hb dL_lamps_11 ?_
  refine lv_goto (tgt := 16) hx hb dL_lamps_12 (by decide) ?_
  exact W.iret hx hb hr (fun t ht hW => ⟨⟨1000 - x, s.heap, rfl, ⟨rfl, by rw [lmp, if_pos (Int32.not_le.mp c1)]⟩, ht⟩, hS.F ht⟩) hS.2.2 dL_lamps_16

set_option maxHeartbeats 600000 in
set_option maxRecDepth 100000 in
theorem c_L_gives (l : Launch) (D : va_G) (G : Nat → ClassId) (μ : Nat → Nat) (R P : Nat → Int32) (j : Nat) (f : Int32) (H : Heap) (hμ : inj 4 μ) (hL : LB D G μ R P H) (hg : gd R) (hj : j < 3) : Met l yL_gives wsL_gives ({ frames := 0, cells := 0, slots := 0, locals := 0 } : Room) (va_Pc [.ref (μ 0), .int (nI j), .int f] (CX D G H)) (QI nA (fun r h => H = h ∧ gv R j f = r)) 0 0 (nA) := by
  refine Met.ofW (cc := cL_gives) (maxL := 3) (ret := (some .int)) (by decide) rfl ?_
  intro p e s m args below meth c s₁ B0 hml hv
  obtain ⟨rfl, rfl, hK, hN⟩ := hv
  have hx := B0.exec
  have hb := B0.bytes
  have hr := B0.returns
  have hts := atoms_spec (ws := wsL_gives) B0.pre
  have hown : s.vm.findClass RL = some m.cls := findClass_of_methodNamed B0.named
  have hlocks := B0.notSynchronized
  have hF : CallFix p m c cL_gives 3 s ([.ref (μ 0), .int (nI j), .int f] : List Value).toArray wsL_gives RL := ⟨hx, hb, hml, hown, hts⟩
  have hS : va_S (nA) s.heap s.heap [] := va_S.rf
  have hl := lv_entry ([.ref (μ 0), .int (nI j), .int f]) (n := 3) (Nat.le_of_ble_eq_true rfl)
  rw [lg_entry_eq]
  generalize (lg_sl ([.ref (μ 0), .int (nI j), .int f]) ++ List.replicate (3 - (lg_sl ([.ref (μ 0), .int (nI j), .int f])).length) Slot.unset).toArray = ls at hl ⊢
  have hl : lv_has ls 3 [(0, .ref (μ 0)), (1, .int (nI j)), (2, .int f)] := hl
  refine lv_aload_n hx hb dL_gives_0 rfl (lv_at hl 0 rfl) ?_
  refine lv_bipush (v := 10) hx hb dL_gives_1 (by decide) ?_
  refine lv_iload_n hx hb dL_gives_3 rfl (lv_at hl 1 rfl) ?_
  refine lv_imul hx hb dL_gives_4 ?_
  rw [show (10 : Int32) * nI j = nI (10 * j) from pk_mul 10 j]
  refine lv_iconst (v := 4) hx hb dL_gives_5 (by decide) ?_
  refine lv_iadd hx hb dL_gives_6 ?_
  rw [show nI (10 * j) + (4 : Int32) = nI (10 * j + 4) from nI_add (10 * j) 4]
  refine ld_d hx hb hK hL.1 j 4 12 rfl hj (by decide) rfl dL_gives_7 ?_
  refine lv_aload_n hx hb dL_gives_8 rfl (lv_at hl 0 rfl) ?_
  refine lv_bipush (v := 10) hx hb dL_gives_9 (by decide) ?_
  refine lv_iload_n hx hb dL_gives_11 rfl (lv_at hl 1 rfl) ?_
  refine lv_imul hx hb dL_gives_12 ?_
  rw [show (10 : Int32) * nI j = nI (10 * j) from pk_mul 10 j]
  refine lv_iconst (v := 2) hx hb dL_gives_13 (by decide) ?_
  refine lv_iadd hx hb dL_gives_14 ?_
  rw [show nI (10 * j) + (2 : Int32) = nI (10 * j + 2) from nI_add (10 * j) 2]
  refine ld_d hx hb hK hL.1 j 2 10 rfl hj (by decide) rfl dL_gives_15 ?_
  refine lv_iload_n hx hb dL_gives_16 rfl (lv_at hl 2 rfl) ?_
  refine lv_isub hx hb dL_gives_17 ?_
  refine lv_aload_n hx hb dL_gives_18 rfl (lv_at hl 0 rfl) ?_
  refine lv_bipush (v := 10) hx hb dL_gives_19 (by decide) ?_
  refine lv_iload_n hx hb dL_gives_21 rfl (lv_at hl 1 rfl) ?_
  refine lv_imul hx hb dL_gives_22 ?_
  rw [show (10 : Int32) * nI j = nI (10 * j) from pk_mul 10 j]
  refine ld_d hx hb hK hL.1 j 0 8 rfl hj (by decide) rfl dL_gives_23 ?_
  refine lv_imul hx hb dL_gives_24 ?_
  refine lv_aload_n hx hb dL_gives_25 rfl (lv_at hl 0 rfl) ?_
  refine lv_bipush (v := 10) hx hb dL_gives_26 (by decide) ?_
  refine lv_iload_n hx hb dL_gives_28 rfl (lv_at hl 1 rfl) ?_
  refine lv_imul hx hb dL_gives_29 ?_
  rw [show (10 : Int32) * nI j = nI (10 * j) from pk_mul 10 j]
  refine lv_iconst (v := 1) hx hb dL_gives_30 (by decide) ?_
  refine lv_iadd hx hb dL_gives_31 ?_
  rw [show nI (10 * j) + (1 : Int32) = nI (10 * j + 1) from nI_add (10 * j) 1]
  refine ld_d hx hb hK hL.1 j 1 9 rfl hj (by decide) rfl dL_gives_32 ?_
  refine lv_idiv hx hb dL_gives_33 ((gd_wz hg).2.1 j hj) ?_
  refine lv_imul hx hb dL_gives_34 ?_
  exact W.iret hx hb hr (fun t ht hW => ⟨⟨(R (12 + 10 * j)) * ((((R (10 + 10 * j)) - f) * (R (8 + 10 * j))) / (R (9 + 10 * j))), s.heap, rfl, ⟨rfl, (gv_l hg hj).symm⟩, ht⟩, hS.F ht⟩) hS.2.2 dL_gives_35

set_option maxHeartbeats 600000 in
set_option maxRecDepth 100000 in
theorem c_L_together (l : Launch) (D : va_G) (G : Nat → ClassId) (μ : Nat → Nat) (R P : Nat → Int32) (f : Int32) (H : Heap) (hμ : inj 4 μ) (hL : LB D G μ R P H) (hg : gd R) : Met l yL_together wsL_together ({ frames := 1, cells := 0, slots := 0, locals := 22 } : Room) (va_Pc [.ref (μ 0), .int f] (CX D G H)) (QI nA (fun r h => H = h ∧ tot R f = r)) 0 0 (nA) := by
  refine Met.ofW (cc := cL_together) (maxL := 2) (ret := (some .int)) (by decide) rfl ?_
  intro p e s m args below meth c s₁ B0 hml hv
  obtain ⟨rfl, rfl, hK, hN⟩ := hv
  have hx := B0.exec
  have hb := B0.bytes
  have hr := B0.returns
  have hts := atoms_spec (ws := wsL_together) B0.pre
  have hown : s.vm.findClass RL = some m.cls := findClass_of_methodNamed B0.named
  have hlocks := B0.notSynchronized
  have hF : CallFix p m c cL_together 2 s ([.ref (μ 0), .int f] : List Value).toArray wsL_together RL := ⟨hx, hb, hml, hown, hts⟩
  have hS : va_S (nA) s.heap s.heap [] := va_S.rf
  have hl := lv_entry ([.ref (μ 0), .int f]) (n := 2) (Nat.le_of_ble_eq_true rfl)
  rw [lg_entry_eq]
  generalize (lg_sl ([.ref (μ 0), .int f]) ++ List.replicate (2 - (lg_sl ([.ref (μ 0), .int f])).length) Slot.unset).toArray = ls at hl ⊢
  have hl : lv_has ls 2 [(0, .ref (μ 0)), (1, .int f)] := hl
  refine lv_aload_n hx hb dL_together_0 rfl (lv_at hl 0 rfl) ?_
  refine lv_iconst (v := 0) hx hb dL_together_1 (by decide) ?_
  refine lv_iload_n hx hb dL_together_2 rfl (lv_at hl 1 rfl) ?_
  refine dp_Si hF hK hN (c_L_gives l D G μ R P 0 f _ hμ hL hg (by decide)) (va_cwS 3 hts gL_together_L_gives rfl rfl rfl (by decide +kernel) ⟨Nat.le_of_ble_eq_true rfl, Nat.le_of_ble_eq_true rfl⟩) hS nA_i [] rfl rfl hl.1 (Nat.le_of_ble_eq_true rfl) dL_together_3 ⟨Nat.le_of_ble_eq_true rfl, Nat.le_of_ble_eq_true rfl⟩ (fun rH1 H1 locs hp hzH1 hkH1 hS => ?_)
  obtain ⟨rfl, rfl⟩ := hp
  refine lv_aload_n hx hb dL_together_6 rfl (lv_at hl 0 rfl) ?_
  refine lv_iconst (v := 1) hx hb dL_together_7 (by decide) ?_
  refine lv_iload_n hx hb dL_together_8 rfl (lv_at hl 1 rfl) ?_
  refine dp_Si hF hK hN (c_L_gives l D G μ R P 1 f _ hμ hL hg (by decide)) (va_cwS 3 hts gL_together_L_gives rfl rfl rfl (by decide +kernel) ⟨Nat.le_of_ble_eq_true rfl, Nat.le_of_ble_eq_true rfl⟩) hS nA_i [.int (gv R 0 f)] rfl rfl hl.1 (Nat.le_of_ble_eq_true rfl) dL_together_9 ⟨Nat.le_of_ble_eq_true rfl, Nat.le_of_ble_eq_true rfl⟩ (fun rH2 H2 locs hp hzH2 hkH2 hS => ?_)
  obtain ⟨rfl, rfl⟩ := hp
  refine lv_iadd hx hb dL_together_12 ?_
  refine lv_aload_n hx hb dL_together_13 rfl (lv_at hl 0 rfl) ?_
  refine lv_iconst (v := 2) hx hb dL_together_14 (by decide) ?_
  refine lv_iload_n hx hb dL_together_15 rfl (lv_at hl 1 rfl) ?_
  refine dp_Si hF hK hN (c_L_gives l D G μ R P 2 f _ hμ hL hg (by decide)) (va_cwS 3 hts gL_together_L_gives rfl rfl rfl (by decide +kernel) ⟨Nat.le_of_ble_eq_true rfl, Nat.le_of_ble_eq_true rfl⟩) hS nA_i [.int ((gv R 0 f) + (gv R 1 f))] rfl rfl hl.1 (Nat.le_of_ble_eq_true rfl) dL_together_16 ⟨Nat.le_of_ble_eq_true rfl, Nat.le_of_ble_eq_true rfl⟩ (fun rH3 H3 locs hp hzH3 hkH3 hS => ?_)
  obtain ⟨rfl, rfl⟩ := hp
  refine lv_iadd hx hb dL_together_19 ?_
  exact W.iret hx hb hr (fun t ht hW => ⟨⟨((gv R 0 f) + (gv R 1 f)) + (gv R 2 f), s.heap, rfl, ⟨rfl, tot3.symm⟩, ht⟩, hS.F ht⟩) hS.2.2 dL_together_20

set_option maxHeartbeats 600000 in
set_option maxRecDepth 100000 in
theorem c_L_load (l : Launch) (D : va_G) (G : Nat → ClassId) (μ : Nat → Nat) (R P : Nat → Int32)  (H : Heap) (hμ : inj 4 μ) (hL : LB D G μ R P H) (hg : gd R) : Met l yL_load wsL_load ({ frames := 0, cells := 0, slots := 0, locals := 0 } : Room) (va_Pc [.ref (μ 0), .ref (μ 1)] (CX D G H)) (QI nA (fun r h => H = h ∧ ld R = r)) 0 0 (nA) := by
  refine Met.ofW (cc := cL_load) (maxL := 4) (ret := (some .int)) (by decide) rfl ?_
  intro p e s m args below meth c s₁ B0 hml hv
  obtain ⟨rfl, rfl, hK, hN⟩ := hv
  have hx := B0.exec
  have hb := B0.bytes
  have hr := B0.returns
  have hts := atoms_spec (ws := wsL_load) B0.pre
  have hown : s.vm.findClass RL = some m.cls := findClass_of_methodNamed B0.named
  have hlocks := B0.notSynchronized
  have hF : CallFix p m c cL_load 4 s ([.ref (μ 0), .ref (μ 1)] : List Value).toArray wsL_load RL := ⟨hx, hb, hml, hown, hts⟩
  have hS : va_S (nA) s.heap s.heap [] := va_S.rf
  have hl := lv_entry ([.ref (μ 0), .ref (μ 1)]) (n := 4) (Nat.le_of_ble_eq_true rfl)
  rw [lg_entry_eq]
  generalize (lg_sl ([.ref (μ 0), .ref (μ 1)]) ++ List.replicate (4 - (lg_sl ([.ref (μ 0), .ref (μ 1)])).length) Slot.unset).toArray = ls at hl ⊢
  have hl : lv_has ls 4 [(0, .ref (μ 0)), (1, .ref (μ 1))] := hl
  refine lv_iconst (v := 0) hx hb dL_load_0 (by decide) ?_
  refine lv_istore_n (lv' := [(2, .int 0), (0, .ref (μ 0)), (1, .ref (μ 1))]) hx hb dL_load_1 rfl hl (by decide) rfl (fun ls hl => ?_)
  refine lv_iconst (v := 0) hx hb dL_load_2 (by decide) ?_
  refine lv_istore_n (lv' := [(3, .int 0), (2, .int 0), (0, .ref (μ 0)), (1, .ref (μ 1))]) hx hb dL_load_3 rfl hl (by decide) rfl (fun ls hl => ?_)
  have loop4 : ∀ (m9 : Nat) (i : Nat) (all : Int32) (_ : i + m9 = 4) (_ : all = lsum R i) (locs : List Loc) (_ : va_S (nA) s.heap s.heap locs) (ls : Array Slot) (_ : lv_has ls 4 [(0, .ref (μ 0)), (1, .ref (μ 1)), (2, .int all), (3, .int (nI i))]), W p l e (headSpec wsL_load ({ frames := 0, cells := 0, slots := 0, locals := 0 } : Room)).room s m ([.ref (μ 0), .ref (μ 1)] : List Value).toArray below meth c s.heap locs 0 0 (MQ below (QI nA (fun r h => s.heap = h ∧ ld R = r)) ([.ref (μ 0), .ref (μ 1)] : List Value).toArray s 0 0 (nA)) (F0 m 4 ls []) := by
    intro m9
    induction m9 with
    | zero =>
      intro i all hin hacc locs hS ls hl
      refine lv_iload_n hx hb dL_load_4 rfl (lv_at hl 3 rfl) ?_
      refine lv_iconst (v := 4) hx hb dL_load_5 (by decide) ?_
      refine lv_icmp_ge (tgt := 27) hx hb dL_load_6 (by decide) (fun c1 => ?_) (fun c1 => absurd (nI_le (a := 4) (b := i) (by omega) (by omega)) c1)
      refine lv_aload_n hx hb dL_load_27 rfl (lv_at hl 0 rfl) ?_
      refine lv_iconst (v := 4) hx hb dL_load_28 (by decide) ?_
      refine ld_d hx hb hK hL.1 0 4 12 (by decide) (by decide) (by decide) rfl dL_load_29 ?_
      refine lv_aload_n hx hb dL_load_30 rfl (lv_at hl 0 rfl) ?_
      refine lv_bipush (v := 14) hx hb dL_load_31 (by decide) ?_
      refine ld_d hx hb hK hL.1 1 4 12 (by decide) (by decide) (by decide) rfl dL_load_33 ?_
      refine lv_iadd hx hb dL_load_34 ?_
      refine lv_aload_n hx hb dL_load_35 rfl (lv_at hl 0 rfl) ?_
      refine lv_bipush (v := 24) hx hb dL_load_36 (by decide) ?_
      refine ld_d hx hb hK hL.1 2 4 12 (by decide) (by decide) (by decide) rfl dL_load_38 ?_
      refine lv_iadd hx hb dL_load_39 ?_
      refine lv_if_le (tgt := 47) hx hb dL_load_40 (by decide) (fun c2 => ?_) (fun c2 => ?_)
      · refine lv_iconst (v := 0) hx hb dL_load_47 (by decide) ?_
        exact W.iret hx hb hr (fun t ht hW => ⟨⟨0, s.heap, rfl, ⟨rfl, by rw [ld, if_pos (al_le (gd_bz hg) c2)]⟩, ht⟩, hS.F ht⟩) hS.2.2 dL_load_48
      refine lv_iload_n hx hb dL_load_43 rfl (lv_at hl 2 rfl) ?_
      refine lv_goto (tgt := 48) hx hb dL_load_44 (by decide) ?_
      exact W.iret hx hb hr (fun t ht hW => ⟨⟨all, s.heap, rfl, ⟨rfl, by rw [ld, if_neg (by rw [al_gt (gd_bz hg) c2]; decide), hacc, show i = 4 by omega]⟩, ht⟩, hS.F ht⟩) hS.2.2 dL_load_48
    | succ m9 ih4 =>
      intro i all hin hacc locs hS ls hl
      refine lv_iload_n hx hb dL_load_4 rfl (lv_at hl 3 rfl) ?_
      refine lv_iconst (v := 4) hx hb dL_load_5 (by decide) ?_
      refine lv_icmp_ge (tgt := 27) hx hb dL_load_6 (by decide) (fun c3 => absurd c3 (nI_ge (a := i) (b := 4) (by omega) (by omega))) (fun c3 => ?_)
      refine lv_iload_n hx hb dL_load_9 rfl (lv_at hl 2 rfl) ?_
      refine lv_aload_n hx hb dL_load_10 rfl (lv_at hl 1 rfl) ?_
      refine lv_iload_n hx hb dL_load_11 rfl (lv_at hl 3 rfl) ?_
      refine ld_f hx hb hK hL.2.1 i 0 38 (congrArg nI (by omega)) (by omega) (by decide) rfl dL_load_12 ?_
      refine lv_aload_n hx hb dL_load_13 rfl (lv_at hl 1 rfl) ?_
      refine lv_iconst (v := 4) hx hb dL_load_14 (by decide) ?_
      refine lv_iload_n hx hb dL_load_15 rfl (lv_at hl 3 rfl) ?_
      refine lv_iadd hx hb dL_load_16 ?_
      rw [show (4 : Int32) + nI i = nI (4 + i) from nI_add 4 i]
      refine ld_f hx hb hK hL.2.1 i 1 39 (congrArg nI (by omega)) (by omega) (by decide) rfl dL_load_17 ?_
      refine lv_imul hx hb dL_load_18 ?_
      refine lv_iadd hx hb dL_load_19 ?_
      refine lv_istore_n (lv' := [(2, .int (all + ((R (38 + 3 * i)) * (R (39 + 3 * i))))), (0, .ref (μ 0)), (1, .ref (μ 1)), (3, .int (nI i))]) hx hb dL_load_20 rfl hl (by decide) rfl (fun ls hl => ?_)
      refine lv_iinc (v := nI (i + 1)) (lv' := [(3, .int (nI (i + 1))), (2, .int (all + ((R (38 + 3 * i)) * (R (39 + 3 * i))))), (0, .ref (μ 0)), (1, .ref (μ 1))]) hx hb dL_load_21 hl (k := 3) rfl (nI_1 i) (by decide) rfl (fun ls hl => ?_)
      refine lv_goto (tgt := 4) hx hb dL_load_24 (by decide) ?_
      exact ih4 (i + 1) (all + ((R (38 + 3 * i)) * (R (39 + 3 * i)))) (by omega) (by rw [hacc]; exact lsum_l hg (by omega)) _ hS _ (lv_sub hl [2, 3, 1, 0] rfl)
  exact loop4 4 0 0 rfl rfl _ hS _ (lv_sub hl [2, 3, 1, 0] rfl)

set_option maxHeartbeats 600000 in
set_option maxRecDepth 100000 in
theorem c_L_frequency (l : Launch) (D : va_G) (G : Nat → ClassId) (μ : Nat → Nat) (R P : Nat → Int32)  (H : Heap) (hμ : inj 4 μ) (hL : LB D G μ R P H) (hg : gd R) : Met l yL_frequency wsL_frequency ({ frames := 2, cells := 0, slots := 0, locals := 43 } : Room) (va_Pc [.ref (μ 0), .ref (μ 1)] (CX D G H)) (QI nA (fun r h => H = h ∧ fq R = r)) 0 0 (nA) := by
  refine Met.ofW (cc := cL_frequency) (maxL := 6) (ret := (some .int)) (by decide) rfl ?_
  intro p e s m args below meth c s₁ B0 hml hv
  obtain ⟨rfl, rfl, hK, hN⟩ := hv
  have hx := B0.exec
  have hb := B0.bytes
  have hr := B0.returns
  have hts := atoms_spec (ws := wsL_frequency) B0.pre
  have hown : s.vm.findClass RL = some m.cls := findClass_of_methodNamed B0.named
  have hlocks := B0.notSynchronized
  have hF : CallFix p m c cL_frequency 6 s ([.ref (μ 0), .ref (μ 1)] : List Value).toArray wsL_frequency RL := ⟨hx, hb, hml, hown, hts⟩
  have hS : va_S (nA) s.heap s.heap [] := va_S.rf
  have hl := lv_entry ([.ref (μ 0), .ref (μ 1)]) (n := 6) (Nat.le_of_ble_eq_true rfl)
  rw [lg_entry_eq]
  generalize (lg_sl ([.ref (μ 0), .ref (μ 1)]) ++ List.replicate (6 - (lg_sl ([.ref (μ 0), .ref (μ 1)])).length) Slot.unset).toArray = ls at hl ⊢
  have hl : lv_has ls 6 [(0, .ref (μ 0)), (1, .ref (μ 1))] := hl
  refine lv_aload_n hx hb dL_frequency_0 rfl (lv_at hl 0 rfl) ?_
  refine lv_iconst (v := 4) hx hb dL_frequency_1 (by decide) ?_
  refine ld_d hx hb hK hL.1 0 4 12 (by decide) (by decide) (by decide) rfl dL_frequency_2 ?_
  refine lv_aload_n hx hb dL_frequency_3 rfl (lv_at hl 0 rfl) ?_
  refine lv_bipush (v := 14) hx hb dL_frequency_4 (by decide) ?_
  refine ld_d hx hb hK hL.1 1 4 12 (by decide) (by decide) (by decide) rfl dL_frequency_6 ?_
  refine lv_iadd hx hb dL_frequency_7 ?_
  refine lv_aload_n hx hb dL_frequency_8 rfl (lv_at hl 0 rfl) ?_
  refine lv_bipush (v := 24) hx hb dL_frequency_9 (by decide) ?_
  refine ld_d hx hb hK hL.1 2 4 12 (by decide) (by decide) (by decide) rfl dL_frequency_11 ?_
  refine lv_iadd hx hb dL_frequency_12 ?_
  refine lv_if_ne (tgt := 18) hx hb dL_frequency_13 (by decide) (fun c1 => ?_) (fun c1 => ?_)
  · refine lv_sipush (v := 4700) hx hb dL_frequency_18 (by decide) ?_
    refine lv_istore_n (lv' := [(2, .int 4700), (0, .ref (μ 0)), (1, .ref (μ 1))]) hx hb dL_frequency_21 rfl hl (by decide) rfl (fun ls hl => ?_)
    refine lv_sipush (v := 5301) hx hb dL_frequency_22 (by decide) ?_
    refine lv_istore_n (lv' := [(3, .int 5301), (2, .int 4700), (0, .ref (μ 0)), (1, .ref (μ 1))]) hx hb dL_frequency_25 rfl hl (by decide) rfl (fun ls hl => ?_)
    have loop26 : ∀ (m9 : Nat) (a : Nat) (b : Nat) (_ : a < b) (_ : b ≤ 601) (_ : b - a ≤ m9 + 1) (_ : a = 0 ∨ fok R a = true) (_ : ∀ q, b ≤ q → q ≤ 600 → fok R q = false) (locs : List Loc) (_ : va_S (nA) s.heap s.heap locs) (ls : Array Slot) (_ : lv_has ls 6 [(0, .ref (μ 0)), (1, .ref (μ 1)), (2, .int (nI (4700 + a))), (3, .int (nI (4700 + b)))]), W p l e (headSpec wsL_frequency ({ frames := 2, cells := 0, slots := 0, locals := 43 } : Room)).room s m ([.ref (μ 0), .ref (μ 1)] : List Value).toArray below meth c s.heap locs 0 0 (MQ below (QI nA (fun r h => s.heap = h ∧ fq R = r)) ([.ref (μ 0), .ref (μ 1)] : List Value).toArray s 0 0 (nA)) (F0 m 26 ls []) := by
      intro m9
      induction m9 with
      | zero =>
        intro a b hab hb6 hin ha hf locs hS ls hl
        refine lv_iload_n hx hb dL_frequency_26 rfl (lv_at hl 3 rfl) ?_
        refine lv_iload_n hx hb dL_frequency_27 rfl (lv_at hl 2 rfl) ?_
        refine lv_isub hx hb dL_frequency_28 ?_
        rw [sub47 (by omega)]
        refine lv_iconst (v := 1) hx hb dL_frequency_29 (by decide) ?_
        refine lv_icmp_le (tgt := 88) hx hb dL_frequency_30 (by decide) (fun c2 => ?_) (fun c2 => absurd (nI_le (a := b - a) (b := 1) (by omega) (by decide)) c2)
        refine lv_iload_n hx hb dL_frequency_88 rfl (lv_at hl 2 rfl) ?_
        exact W.iret hx hb hr (fun t ht hW => ⟨⟨nI (4700 + a), s.heap, rfl, ⟨rfl, (fq_of (fun q => c1 ((sm3_0 (gd_bz hg)).mpr q)) (fsb_eq (by omega) ha (fun q h1 h2 => hf q (by have := hin; omega) h2))).symm⟩, ht⟩, hS.F ht⟩) hS.2.2 dL_frequency_89
      | succ m9 ih26 =>
        intro a b hab hb6 hin ha hf locs hS ls hl
        refine lv_iload_n hx hb dL_frequency_26 rfl (lv_at hl 3 rfl) ?_
        refine lv_iload_n hx hb dL_frequency_27 rfl (lv_at hl 2 rfl) ?_
        refine lv_isub hx hb dL_frequency_28 ?_
        rw [sub47 (by omega)]
        refine lv_iconst (v := 1) hx hb dL_frequency_29 (by decide) ?_
        refine lv_icmp_le (tgt := 88) hx hb dL_frequency_30 (by decide) (fun c3 => ?_) (fun c3 => ?_)
        · refine lv_iload_n hx hb dL_frequency_88 rfl (lv_at hl 2 rfl) ?_
          exact W.iret hx hb hr (fun t ht hW => ⟨⟨nI (4700 + a), s.heap, rfl, ⟨rfl, (fq_of (fun q => c1 ((sm3_0 (gd_bz hg)).mpr q)) (fsb_eq (by omega) ha (fun q h1 h2 => hf q (by have := (le_1 (by omega) c3); omega) h2))).symm⟩, ht⟩, hS.F ht⟩) hS.2.2 dL_frequency_89
        have hab2 := gt_1 c3
        refine lv_iload_n hx hb dL_frequency_33 rfl (lv_at hl 2 rfl) ?_
        refine lv_iload_n hx hb dL_frequency_34 rfl (lv_at hl 3 rfl) ?_
        refine lv_iadd hx hb dL_frequency_35 ?_
        rw [show nI (4700 + a) + nI (4700 + b) = nI (4700 + a + (4700 + b)) from nI_add (4700 + a) (4700 + b)]
        refine lv_iconst (v := 2) hx hb dL_frequency_36 (by decide) ?_
        refine lv_idiv hx hb dL_frequency_37 (by decide) ?_
        rw [half2 (by omega)]
        obtain ⟨k, hk⟩ : ∃ k, k = (a + b) / 2 := ⟨_, rfl⟩
        rw [← hk]
        refine lv_istore (lv' := [(4, .int (nI (4700 + k))), (0, .ref (μ 0)), (1, .ref (μ 1)), (2, .int (nI (4700 + a))), (3, .int (nI (4700 + b)))]) hx hb dL_frequency_38 hl (by decide) rfl (fun ls hl => ?_)
        refine lv_aload_n hx hb dL_frequency_40 rfl (lv_at hl 1 rfl) ?_
        refine lv_iload hx hb dL_frequency_41 (lv_at hl 0 rfl) ?_
        refine dp_Si hF hK hN (c_L_together l D G μ R P (nI (4700 + k)) _ hμ hL hg) (va_cwS 2 hts gL_frequency_L_together rfl rfl rfl (by decide +kernel) ⟨Nat.le_of_ble_eq_true rfl, Nat.le_of_ble_eq_true rfl⟩) hS nA_i [] rfl rfl hl.1 (Nat.le_of_ble_eq_true rfl) dL_frequency_43 ⟨Nat.le_of_ble_eq_true rfl, Nat.le_of_ble_eq_true rfl⟩ (fun rH1 H1 locs hp hzH1 hkH1 hS => ?_)
        obtain ⟨rfl, rfl⟩ := hp
        refine lv_aload_n hx hb dL_frequency_46 rfl (lv_at hl 1 rfl) ?_
        refine lv_aload_n hx hb dL_frequency_47 rfl (lv_at hl 2 rfl) ?_
        refine dp_Si hF hK hN (c_L_load l D G μ R P  _ hμ hL hg) (va_cwS 2 hts gL_frequency_L_load rfl rfl rfl (by decide +kernel) ⟨Nat.le_of_ble_eq_true rfl, Nat.le_of_ble_eq_true rfl⟩) hS nA_i [.int (tot R (nI (4700 + k)))] rfl rfl hl.1 (Nat.le_of_ble_eq_true rfl) dL_frequency_48 ⟨Nat.le_of_ble_eq_true rfl, Nat.le_of_ble_eq_true rfl⟩ (fun rH2 H2 locs hp hzH2 hkH2 hS => ?_)
        obtain ⟨rfl, rfl⟩ := hp
        refine lv_icmp_lt (tgt := 58) hx hb dL_frequency_51 (by decide) (fun c4 => ?_) (fun c4 => ?_)
        · refine lv_iconst (v := 0) hx hb dL_frequency_58 (by decide) ?_
          refine lv_istore (lv' := [(5, .int 0), (4, .int (nI (4700 + k))), (0, .ref (μ 0)), (1, .ref (μ 1)), (2, .int (nI (4700 + a))), (3, .int (nI (4700 + b)))]) hx hb dL_frequency_59 hl (by decide) rfl (fun ls hl => ?_)
          refine lv_iload hx hb dL_frequency_61 (lv_at hl 0 rfl) ?_
          refine lv_if_eq (tgt := 71) hx hb dL_frequency_63 (by decide) (fun c5 => ?_) (fun c5 => absurd (by decide) c5)
          refine lv_iload_n hx hb dL_frequency_71 rfl (lv_at hl 4 rfl) ?_
          refine lv_istore_n (lv' := [(2, .int (nI (4700 + a))), (5, .int 0), (4, .int (nI (4700 + k))), (0, .ref (μ 0)), (1, .ref (μ 1)), (3, .int (nI (4700 + b)))]) hx hb dL_frequency_72 rfl hl (by decide) rfl (fun ls hl => ?_)
          refine lv_iload hx hb dL_frequency_73 (lv_at hl 1 rfl) ?_
          refine lv_if_eq (tgt := 82) hx hb dL_frequency_75 (by decide) (fun c6 => ?_) (fun c6 => absurd (by decide) c6)
          refine lv_iload hx hb dL_frequency_82 (lv_at hl 2 rfl) ?_
          refine lv_istore_n (lv' := [(3, .int (nI (4700 + k))), (2, .int (nI (4700 + a))), (5, .int 0), (4, .int (nI (4700 + k))), (0, .ref (μ 0)), (1, .ref (μ 1))]) hx hb dL_frequency_84 rfl hl (by decide) rfl (fun ls hl => ?_)
          refine lv_goto (tgt := 26) hx hb dL_frequency_85 (by decide) ?_
          exact ih26 a k (by omega) (by omega) (by omega) ha (fun q h1 h2 => fok_n (gd_mono hg) h1 h2 (fok_f c4)) _ hS _ (lv_sub hl [4, 5, 1, 0] rfl)
        refine lv_iconst (v := 1) hx hb dL_frequency_54 (by decide) ?_
        refine lv_goto (tgt := 59) hx hb dL_frequency_55 (by decide) ?_
        refine lv_istore (lv' := [(5, .int 1), (4, .int (nI (4700 + k))), (0, .ref (μ 0)), (1, .ref (μ 1)), (2, .int (nI (4700 + a))), (3, .int (nI (4700 + b)))]) hx hb dL_frequency_59 hl (by decide) rfl (fun ls hl => ?_)
        refine lv_iload hx hb dL_frequency_61 (lv_at hl 0 rfl) ?_
        refine lv_if_eq (tgt := 71) hx hb dL_frequency_63 (by decide) (fun c7 => absurd c7 (by decide)) (fun c7 => ?_)
        refine lv_iload hx hb dL_frequency_66 (lv_at hl 1 rfl) ?_
        refine lv_goto (tgt := 72) hx hb dL_frequency_68 (by decide) ?_
        refine lv_istore_n (lv' := [(2, .int (nI (4700 + k))), (5, .int 1), (4, .int (nI (4700 + k))), (0, .ref (μ 0)), (1, .ref (μ 1)), (3, .int (nI (4700 + b)))]) hx hb dL_frequency_72 rfl hl (by decide) rfl (fun ls hl => ?_)
        refine lv_iload hx hb dL_frequency_73 (lv_at hl 1 rfl) ?_
        refine lv_if_eq (tgt := 82) hx hb dL_frequency_75 (by decide) (fun c8 => absurd c8 (by decide)) (fun c8 => ?_)
        refine lv_iload_n hx hb dL_frequency_78 rfl (lv_at hl 5 rfl) ?_
        refine lv_goto (tgt := 84) hx hb dL_frequency_79 (by decide) ?_
        refine lv_istore_n (lv' := [(3, .int (nI (4700 + b))), (2, .int (nI (4700 + k))), (5, .int 1), (4, .int (nI (4700 + k))), (0, .ref (μ 0)), (1, .ref (μ 1))]) hx hb dL_frequency_84 rfl hl (by decide) rfl (fun ls hl => ?_)
        refine lv_goto (tgt := 26) hx hb dL_frequency_85 (by decide) ?_
        exact ih26 k b (by omega) (by omega) (by omega) (Or.inr (fok_t c4)) hf _ hS _ (lv_sub hl [4, 5, 1, 0] rfl)
    exact loop26 600 0 601 (by omega) (by omega) (by omega) (Or.inl rfl) (fun q h1 h2 => by omega) _ hS _ (lv_sub hl [2, 3, 1, 0] rfl)
  refine lv_iconst (v := 0) hx hb dL_frequency_16 (by decide) ?_
  exact W.iret hx hb hr (fun t ht hW => ⟨⟨0, s.heap, rfl, ⟨rfl, by rw [fq, if_pos ((sm3_0 (gd_bz hg)).mp c1)]⟩, ht⟩, hS.F ht⟩) hS.2.2 dL_frequency_17
