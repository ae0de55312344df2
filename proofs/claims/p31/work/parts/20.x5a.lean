set_option maxHeartbeats 600000 in
set_option maxRecDepth 100000 in
theorem c_X5_isSet (l : Launch) (D : va_G) (G : Nat → ClassId) (i : Int32) (H : Heap)  : Met l yX5_isSet wsX5_isSet ({ frames := 0, cells := 0, slots := 0, locals := 0 } : Room) (va_Pc [.int i] (CX D G H)) (QI nA (fun r h => H = h ∧ (if i < 0 then 0 else if 3 ≤ i then 0 else 1) = r)) 0 0 (nA) := by
  refine Met.ofW (cc := cX5_isSet) (maxL := 1) (ret := (some .boolean)) (by decide) rfl ?_
  intro p e s m args below meth c s₁ B0 hml hv
  obtain ⟨rfl, rfl, hK, hN⟩ := hv
  have hx := B0.exec
  have hb := B0.bytes
  have hr := B0.returns
  have hts := atoms_spec (ws := wsX5_isSet) B0.pre
  have hown : s.vm.findClass RX5 = some m.cls := findClass_of_methodNamed B0.named
  have hlocks := B0.notSynchronized
  have hF : CallFix p m c cX5_isSet 1 s ([.int i] : List Value).toArray wsX5_isSet RX5 := ⟨hx, hb, hml, hown, hts⟩
  have hS : va_S (nA) s.heap s.heap [] := va_S.rf
  have hl := lv_entry ([.int i]) (n := 1) (Nat.le_of_ble_eq_true rfl)
  rw [lg_entry_eq]
  generalize (lg_sl ([.int i]) ++ List.replicate (1 - (lg_sl ([.int i])).length) Slot.unset).toArray = ls at hl ⊢
  have hl : lv_has ls 1 [(0, .int i)] := hl
  refine lv_iload_n hx hb dX5_isSet_0 rfl (lv_at hl 0 rfl) ?_
  refine lv_if_lt (tgt := 13) hx hb dX5_isSet_1 (by decide) (fun c1 => ?_) (fun c1 => ?_)
  · refine lv_iconst (v := 0) hx hb dX5_isSet_13 (by decide) ?_
    exact W.zret (ty := .boolean) hx hb hr rfl (fun t ht hW => ⟨⟨0, s.heap, rfl, ⟨rfl, by simp [c1]⟩, ht⟩, hS.F ht⟩) hS.2.2 dX5_isSet_14
  refine lv_iload_n hx hb dX5_isSet_4 rfl (lv_at hl 0 rfl) ?_
  refine lv_iconst (v := 3) hx hb dX5_isSet_5 (by decide) ?_
  refine lv_icmp_ge (tgt := 13) hx hb dX5_isSet_6 (by decide) (fun c2 => ?_) (fun c2 => ?_)
  · refine lv_iconst (v := 0) hx hb dX5_isSet_13 (by decide) ?_
    exact W.zret (ty := .boolean) hx hb hr rfl (fun t ht hW => ⟨⟨0, s.heap, rfl, ⟨rfl, by simp [c1, c2]⟩, ht⟩, hS.F ht⟩) hS.2.2 dX5_isSet_14
  refine lv_iconst (v := 1) hx hb dX5_isSet_9 (by decide) ?_
  refine lv_goto (tgt := 14) hx hb dX5_isSet_10 (by decide) ?_
  exact W.zret (ty := .boolean) hx hb hr rfl (fun t ht hW => ⟨⟨1, s.heap, rfl, ⟨rfl, by simp [c1, c2]⟩, ht⟩, hS.F ht⟩) hS.2.2 dX5_isSet_14

set_option maxHeartbeats 600000 in
set_option maxRecDepth 100000 in
theorem c_X5_isFeeder (l : Launch) (D : va_G) (G : Nat → ClassId) (i : Int32) (H : Heap)  : Met l yX5_isFeeder wsX5_isFeeder ({ frames := 0, cells := 0, slots := 0, locals := 0 } : Room) (va_Pc [.int i] (CX D G H)) (QI nA (fun r h => H = h ∧ (if i < 0 then 0 else if 4 ≤ i then 0 else 1) = r)) 0 0 (nA) := by
  refine Met.ofW (cc := cX5_isFeeder) (maxL := 1) (ret := (some .boolean)) (by decide) rfl ?_
  intro p e s m args below meth c s₁ B0 hml hv
  obtain ⟨rfl, rfl, hK, hN⟩ := hv
  have hx := B0.exec
  have hb := B0.bytes
  have hr := B0.returns
  have hts := atoms_spec (ws := wsX5_isFeeder) B0.pre
  have hown : s.vm.findClass RX5 = some m.cls := findClass_of_methodNamed B0.named
  have hlocks := B0.notSynchronized
  have hF : CallFix p m c cX5_isFeeder 1 s ([.int i] : List Value).toArray wsX5_isFeeder RX5 := ⟨hx, hb, hml, hown, hts⟩
  have hS : va_S (nA) s.heap s.heap [] := va_S.rf
  have hl := lv_entry ([.int i]) (n := 1) (Nat.le_of_ble_eq_true rfl)
  rw [lg_entry_eq]
  generalize (lg_sl ([.int i]) ++ List.replicate (1 - (lg_sl ([.int i])).length) Slot.unset).toArray = ls at hl ⊢
  have hl : lv_has ls 1 [(0, .int i)] := hl
  refine lv_iload_n hx hb dX5_isFeeder_0 rfl (lv_at hl 0 rfl) ?_
  refine lv_if_lt (tgt := 13) hx hb dX5_isFeeder_1 (by decide) (fun c1 => ?_) (fun c1 => ?_)
  · refine lv_iconst (v := 0) hx hb dX5_isFeeder_13 (by decide) ?_
    exact W.zret (ty := .boolean) hx hb hr rfl (fun t ht hW => ⟨⟨0, s.heap, rfl, ⟨rfl, by simp [c1]⟩, ht⟩, hS.F ht⟩) hS.2.2 dX5_isFeeder_14
  refine lv_iload_n hx hb dX5_isFeeder_4 rfl (lv_at hl 0 rfl) ?_
  refine lv_iconst (v := 4) hx hb dX5_isFeeder_5 (by decide) ?_
  refine lv_icmp_ge (tgt := 13) hx hb dX5_isFeeder_6 (by decide) (fun c2 => ?_) (fun c2 => ?_)
  · refine lv_iconst (v := 0) hx hb dX5_isFeeder_13 (by decide) ?_
    exact W.zret (ty := .boolean) hx hb hr rfl (fun t ht hW => ⟨⟨0, s.heap, rfl, ⟨rfl, by simp [c1, c2]⟩, ht⟩, hS.F ht⟩) hS.2.2 dX5_isFeeder_14
  refine lv_iconst (v := 1) hx hb dX5_isFeeder_9 (by decide) ?_
  refine lv_goto (tgt := 14) hx hb dX5_isFeeder_10 (by decide) ?_
  exact W.zret (ty := .boolean) hx hb hr rfl (fun t ht hW => ⟨⟨1, s.heap, rfl, ⟨rfl, by simp [c1, c2]⟩, ht⟩, hS.F ht⟩) hS.2.2 dX5_isFeeder_14

set_option maxHeartbeats 600000 in
set_option maxRecDepth 100000 in
theorem c_X5_needSet (l : Launch) (hl9 : l.stackTraces = false) (D : va_G) (G : Nat → ClassId) (i : Int32) (H : Heap)  : vx_Met l yX5_needSet wsX5_needSet ({ frames := 6, cells := 1, slots := 6, locals := 90 } : Room) (va_Pc [.int i] (CE D G (nA) H)) (QV nA (fun h => H = h ∧ ∃ j : Nat, j < 3 ∧ i = nI j)) (XX (fun E => E = xI ∧ (i < 0 ∨ 3 ≤ i))) 1 6 (nA) := by
  refine vx_ofW (cc := cX5_needSet) (maxL := 1) (ret := none) (by decide) rfl ?_
  intro p e s m args below meth c s₁ B0 hml ht9 hv
  obtain ⟨rfl, ⟨rfl, hK, hN⟩, hE, hZ⟩ := hv
  have hx := B0.exec
  have hb := B0.bytes
  have hr := B0.returns
  have hts := atoms_spec (ws := wsX5_needSet) B0.pre
  have hown : s.vm.findClass RX5 = some m.cls := findClass_of_methodNamed B0.named
  have hlocks := B0.notSynchronized
  have hF : CallFix p m c cX5_needSet 1 s ([.int i] : List Value).toArray wsX5_needSet RX5 := ⟨hx, hb, hml, hown, hts⟩
  have hS : va_S (nA) s.heap s.heap [] := va_S.rf
  have hl := lv_entry ([.int i]) (n := 1) (Nat.le_of_ble_eq_true rfl)
  rw [lg_entry_eq]
  generalize (lg_sl ([.int i]) ++ List.replicate (1 - (lg_sl ([.int i])).length) Slot.unset).toArray = ls at hl ⊢
  have hl : lv_has ls 1 [(0, .int i)] := hl
  refine lv_iload_n hx hb dX5_needSet_0 rfl (lv_at hl 0 rfl) ?_
  refine dp_Si hF hK hN (c_X5_isSet l D G i _) (va_cwS 1 hts gX5_needSet_X5_isSet rfl rfl rfl (by decide +kernel) ⟨Nat.le_of_ble_eq_true rfl, Nat.le_of_ble_eq_true rfl⟩) hS nA_i [] rfl rfl hl.1 (Nat.le_of_ble_eq_true rfl) dX5_needSet_1 ⟨Nat.le_of_ble_eq_true rfl, Nat.le_of_ble_eq_true rfl⟩ (fun rH1 H1 locs hp hzH1 hkH1 hS => ?_)
  obtain ⟨rfl, rfl⟩ := hp
  refine lv_if_ne (tgt := 18) hx hb dX5_needSet_4 (by decide) (fun c1 => ?_) (fun c1 => ?_)
  · refine W.widen (k := 1) (n := 6) (Nat.le_of_ble_eq_true rfl) (Nat.le_of_ble_eq_true rfl) ?_
    refine vx_ret ?_
    exact W.vret hx hb hr (fun t ht hW => ⟨⟨s.heap, rfl, ⟨rfl, in_of (N := 3) (by decide) (fun q => c1 (by rw [if_pos q])) (fun q => c1 (by split; rfl; rw [if_pos (show (3 : Int32) ≤ i from q)]))⟩, ht⟩, hS.F ht⟩) hS.2.2 dX5_needSet_18
  obtain ⟨sa, hsa⟩ := hE.2 (271, "there is no such set") (List.mem_of_getElem? (i := 9) rfl)
  exact vx_throwSW hx hb hl9 (A := nA) (cls := "java/lang/IndexOutOfBoundsException") (names := ["java/lang/RuntimeException", "java/lang/Exception"]) hown fit_I fit_N (hts (.classLink RX5 269 "java/lang/IndexOutOfBoundsException") (List.mem_of_getElem? (i := 1) rfl)) (hts (.initialized "java/lang/IndexOutOfBoundsException") (List.mem_of_getElem? (i := 2) rfl)) hsa (hat_I hE (fun w h => hts w (List.mem_cons_of_mem _ (List.mem_append_right _ h)))) good_I hZ.1 hZ.2.1 hS (hl.1.trans hml.symm) dX5_needSet_7 dX5_needSet_10 dX5_needSet_11 dX5_needSet_14 dX5_needSet_17 (fun x hx => (ht9 x hx).elim) (Nat.le_of_ble_eq_true rfl) (Nat.le_of_ble_eq_true rfl) (Nat.le_of_ble_eq_true rfl) (Nat.le_of_ble_eq_true rfl) hlocks (fun t _ hz hk => ⟨(), trivial, ⟨rfl, by by_cases q : i < 0; exact Or.inl q; by_cases q2 : 3 ≤ i; exact Or.inr q2; rw [if_neg q, if_neg q2] at c1; exact absurd c1 (by decide)⟩, ⟨hz, fun q hq _ => hk q hq⟩⟩) hS.2.2 (Nat.le_of_ble_eq_true rfl) (Nat.le_of_ble_eq_true rfl)

set_option maxHeartbeats 600000 in
set_option maxRecDepth 100000 in
theorem c_X5_needFeeder (l : Launch) (hl9 : l.stackTraces = false) (D : va_G) (G : Nat → ClassId) (i : Int32) (H : Heap)  : vx_Met l yX5_needFeeder wsX5_needFeeder ({ frames := 6, cells := 1, slots := 6, locals := 90 } : Room) (va_Pc [.int i] (CE D G (nA) H)) (QV nA (fun h => H = h ∧ ∃ j : Nat, j < 4 ∧ i = nI j)) (XX (fun E => E = xI ∧ (i < 0 ∨ 4 ≤ i))) 1 6 (nA) := by
  refine vx_ofW (cc := cX5_needFeeder) (maxL := 1) (ret := none) (by decide) rfl ?_
  intro p e s m args below meth c s₁ B0 hml ht9 hv
  obtain ⟨rfl, ⟨rfl, hK, hN⟩, hE, hZ⟩ := hv
  have hx := B0.exec
  have hb := B0.bytes
  have hr := B0.returns
  have hts := atoms_spec (ws := wsX5_needFeeder) B0.pre
  have hown : s.vm.findClass RX5 = some m.cls := findClass_of_methodNamed B0.named
  have hlocks := B0.notSynchronized
  have hF : CallFix p m c cX5_needFeeder 1 s ([.int i] : List Value).toArray wsX5_needFeeder RX5 := ⟨hx, hb, hml, hown, hts⟩
  have hS : va_S (nA) s.heap s.heap [] := va_S.rf
  have hl := lv_entry ([.int i]) (n := 1) (Nat.le_of_ble_eq_true rfl)
  rw [lg_entry_eq]
  generalize (lg_sl ([.int i]) ++ List.replicate (1 - (lg_sl ([.int i])).length) Slot.unset).toArray = ls at hl ⊢
  have hl : lv_has ls 1 [(0, .int i)] := hl
  refine lv_iload_n hx hb dX5_needFeeder_0 rfl (lv_at hl 0 rfl) ?_
  refine dp_Si hF hK hN (c_X5_isFeeder l D G i _) (va_cwS 1 hts gX5_needFeeder_X5_isFeeder rfl rfl rfl (by decide +kernel) ⟨Nat.le_of_ble_eq_true rfl, Nat.le_of_ble_eq_true rfl⟩) hS nA_i [] rfl rfl hl.1 (Nat.le_of_ble_eq_true rfl) dX5_needFeeder_1 ⟨Nat.le_of_ble_eq_true rfl, Nat.le_of_ble_eq_true rfl⟩ (fun rH1 H1 locs hp hzH1 hkH1 hS => ?_)
  obtain ⟨rfl, rfl⟩ := hp
  refine lv_if_ne (tgt := 18) hx hb dX5_needFeeder_4 (by decide) (fun c1 => ?_) (fun c1 => ?_)
  · refine W.widen (k := 1) (n := 6) (Nat.le_of_ble_eq_true rfl) (Nat.le_of_ble_eq_true rfl) ?_
    refine vx_ret ?_
    exact W.vret hx hb hr (fun t ht hW => ⟨⟨s.heap, rfl, ⟨rfl, in_of (N := 4) (by decide) (fun q => c1 (by rw [if_pos q])) (fun q => c1 (by split; rfl; rw [if_pos (show (4 : Int32) ≤ i from q)]))⟩, ht⟩, hS.F ht⟩) hS.2.2 dX5_needFeeder_18
  obtain ⟨sa, hsa⟩ := hE.2 (277, "there is no such feeder") (List.mem_of_getElem? (i := 10) rfl)
  exact vx_throwSW hx hb hl9 (A := nA) (cls := "java/lang/IndexOutOfBoundsException") (names := ["java/lang/RuntimeException", "java/lang/Exception"]) hown fit_I fit_N (hts (.classLink RX5 269 "java/lang/IndexOutOfBoundsException") (List.mem_of_getElem? (i := 1) rfl)) (hts (.initialized "java/lang/IndexOutOfBoundsException") (List.mem_of_getElem? (i := 2) rfl)) hsa (hat_I hE (fun w h => hts w (List.mem_cons_of_mem _ (List.mem_append_right _ h)))) good_I hZ.1 hZ.2.1 hS (hl.1.trans hml.symm) dX5_needFeeder_7 dX5_needFeeder_10 dX5_needFeeder_11 dX5_needFeeder_14 dX5_needFeeder_17 (fun x hx => (ht9 x hx).elim) (Nat.le_of_ble_eq_true rfl) (Nat.le_of_ble_eq_true rfl) (Nat.le_of_ble_eq_true rfl) (Nat.le_of_ble_eq_true rfl) hlocks (fun t _ hz hk => ⟨(), trivial, ⟨rfl, by by_cases q : i < 0; exact Or.inl q; by_cases q2 : 4 ≤ i; exact Or.inr q2; rw [if_neg q, if_neg q2] at c1; exact absurd c1 (by decide)⟩, ⟨hz, fun q hq _ => hk q hq⟩⟩) hS.2.2 (Nat.le_of_ble_eq_true rfl) (Nat.le_of_ble_eq_true rfl)

set_option maxHeartbeats 600000 in
set_option maxRecDepth 100000 in
theorem c_X5_needSetting (l : Launch) (hl9 : l.stackTraces = false) (D : va_G) (G : Nat → ClassId) (i : Int32) (H : Heap)  : vx_Met l yX5_needSetting wsX5_needSetting ({ frames := 6, cells := 1, slots := 6, locals := 90 } : Room) (va_Pc [.int i] (CE D G (nA) H)) (QV nA (fun h => H = h ∧ ∃ j : Nat, j < 4 ∧ i = nI j)) (XX (fun E => E = xI ∧ (i < 0 ∨ 4 ≤ i))) 1 6 (nA) := by
  refine vx_ofW (cc := cX5_needSetting) (maxL := 1) (ret := none) (by decide) rfl ?_
  intro p e s m args below meth c s₁ B0 hml ht9 hv
  obtain ⟨rfl, ⟨rfl, hK, hN⟩, hE, hZ⟩ := hv
  have hx := B0.exec
  have hb := B0.bytes
  have hr := B0.returns
  have hts := atoms_spec (ws := wsX5_needSetting) B0.pre
  have hown : s.vm.findClass RX5 = some m.cls := findClass_of_methodNamed B0.named
  have hlocks := B0.notSynchronized
  have hF : CallFix p m c cX5_needSetting 1 s ([.int i] : List Value).toArray wsX5_needSetting RX5 := ⟨hx, hb, hml, hown, hts⟩
  have hS : va_S (nA) s.heap s.heap [] := va_S.rf
  have hl := lv_entry ([.int i]) (n := 1) (Nat.le_of_ble_eq_true rfl)
  rw [lg_entry_eq]
  generalize (lg_sl ([.int i]) ++ List.replicate (1 - (lg_sl ([.int i])).length) Slot.unset).toArray = ls at hl ⊢
  have hl : lv_has ls 1 [(0, .int i)] := hl
  refine lv_iload_n hx hb dX5_needSetting_0 rfl (lv_at hl 0 rfl) ?_
  refine lv_if_lt (tgt := 9) hx hb dX5_needSetting_1 (by decide) (fun c1 => ?_) (fun c1 => ?_)
  · obtain ⟨sa, hsa⟩ := hE.2 (279, "there is no such setting") (List.mem_of_getElem? (i := 11) rfl)
    exact vx_throwSW hx hb hl9 (A := nA) (cls := "java/lang/IndexOutOfBoundsException") (names := ["java/lang/RuntimeException", "java/lang/Exception"]) hown fit_I fit_N (hts (.classLink RX5 269 "java/lang/IndexOutOfBoundsException") (List.mem_of_getElem? (i := 1) rfl)) (hts (.initialized "java/lang/IndexOutOfBoundsException") (List.mem_of_getElem? (i := 2) rfl)) hsa (hat_I hE (fun w h => hts w (List.mem_cons_of_mem _ (List.mem_append_right _ h)))) good_I hZ.1 hZ.2.1 hS (hl.1.trans hml.symm) dX5_needSetting_9 dX5_needSetting_12 dX5_needSetting_13 dX5_needSetting_16 dX5_needSetting_19 (fun x hx => (ht9 x hx).elim) (Nat.le_of_ble_eq_true rfl) (Nat.le_of_ble_eq_true rfl) (Nat.le_of_ble_eq_true rfl) (Nat.le_of_ble_eq_true rfl) hlocks (fun t _ hz hk => ⟨(), trivial, ⟨rfl, Or.inl c1⟩, ⟨hz, fun q hq _ => hk q hq⟩⟩) hS.2.2 (Nat.le_of_ble_eq_true rfl) (Nat.le_of_ble_eq_true rfl)
  refine lv_iload_n hx hb dX5_needSetting_4 rfl (lv_at hl 0 rfl) ?_
  refine lv_iconst (v := 4) hx hb dX5_needSetting_5 (by decide) ?_
  refine lv_icmp_lt (tgt := 20) hx hb dX5_needSetting_6 (by decide) (fun c2 => ?_) (fun c2 => ?_)
  · refine W.widen (k := 1) (n := 6) (Nat.le_of_ble_eq_true rfl) (Nat.le_of_ble_eq_true rfl) ?_
    refine vx_ret ?_
    exact W.vret hx hb hr (fun t ht hW => ⟨⟨s.heap, rfl, ⟨rfl, in_of (N := 4) (by decide) c1 (Int32.not_le.mpr c2)⟩, ht⟩, hS.F ht⟩) hS.2.2 dX5_needSetting_20
  obtain ⟨sa, hsa⟩ := hE.2 (279, "there is no such setting") (List.mem_of_getElem? (i := 11) rfl)
  exact vx_throwSW hx hb hl9 (A := nA) (cls := "java/lang/IndexOutOfBoundsException") (names := ["java/lang/RuntimeException", "java/lang/Exception"]) hown fit_I fit_N (hts (.classLink RX5 269 "java/lang/IndexOutOfBoundsException") (List.mem_of_getElem? (i := 1) rfl)) (hts (.initialized "java/lang/IndexOutOfBoundsException") (List.mem_of_getElem? (i := 2) rfl)) hsa (hat_I hE (fun w h => hts w (List.mem_cons_of_mem _ (List.mem_append_right _ h)))) good_I hZ.1 hZ.2.1 hS (hl.1.trans hml.symm) dX5_needSetting_9 dX5_needSetting_12 dX5_needSetting_13 dX5_needSetting_16 dX5_needSetting_19 (fun x hx => (ht9 x hx).elim) (Nat.le_of_ble_eq_true rfl) (Nat.le_of_ble_eq_true rfl) (Nat.le_of_ble_eq_true rfl) (Nat.le_of_ble_eq_true rfl) hlocks (fun t _ hz hk => ⟨(), trivial, ⟨rfl, Or.inr (Int32.not_lt.mp c2)⟩, ⟨hz, fun q hq _ => hk q hq⟩⟩) hS.2.2 (Nat.le_of_ble_eq_true rfl) (Nat.le_of_ble_eq_true rfl)

set_option maxHeartbeats 600000 in
set_option maxRecDepth 100000 in
theorem c_X5_needRange (l : Launch) (hl9 : l.stackTraces = false) (D : va_G) (G : Nat → ClassId) (v a b : Int32) (H : Heap)  : vx_Met l yX5_needRange wsX5_needRange ({ frames := 6, cells := 1, slots := 6, locals := 90 } : Room) (va_Pc [.int v, .int a, .int b] (CE D G (nA) H)) (QV nA (fun h => H = h ∧ ¬ v < a ∧ ¬ b < v)) (XX (fun E => E = xA ∧ (v < a ∨ b < v))) 1 6 (nA) := by
  refine vx_ofW (cc := cX5_needRange) (maxL := 3) (ret := none) (by decide) rfl ?_
  intro p e s m args below meth c s₁ B0 hml ht9 hv
  obtain ⟨rfl, ⟨rfl, hK, hN⟩, hE, hZ⟩ := hv
  have hx := B0.exec
  have hb := B0.bytes
  have hr := B0.returns
  have hts := atoms_spec (ws := wsX5_needRange) B0.pre
  have hown : s.vm.findClass RX5 = some m.cls := findClass_of_methodNamed B0.named
  have hlocks := B0.notSynchronized
  have hF : CallFix p m c cX5_needRange 3 s ([.int v, .int a, .int b] : List Value).toArray wsX5_needRange RX5 := ⟨hx, hb, hml, hown, hts⟩
  have hS : va_S (nA) s.heap s.heap [] := va_S.rf
  have hl := lv_entry ([.int v, .int a, .int b]) (n := 3) (Nat.le_of_ble_eq_true rfl)
  rw [lg_entry_eq]
  generalize (lg_sl ([.int v, .int a, .int b]) ++ List.replicate (3 - (lg_sl ([.int v, .int a, .int b])).length) Slot.unset).toArray = ls at hl ⊢
  have hl : lv_has ls 3 [(0, .int v), (1, .int a), (2, .int b)] := hl
  refine lv_iload_n hx hb dX5_needRange_0 rfl (lv_at hl 0 rfl) ?_
  refine lv_iload_n hx hb dX5_needRange_1 rfl (lv_at hl 1 rfl) ?_
  refine lv_icmp_lt (tgt := 10) hx hb dX5_needRange_2 (by decide) (fun c1 => ?_) (fun c1 => ?_)
  · obtain ⟨sa, hsa⟩ := hE.2 (281, "a number is out of range") (List.mem_of_getElem? (i := 12) rfl)
    exact vx_throwSW hx hb hl9 (A := nA) (cls := "java/lang/IllegalArgumentException") (names := ["java/lang/RuntimeException", "java/lang/Exception"]) hown fit_A fit_N (hts (.classLink RX5 168 "java/lang/IllegalArgumentException") (List.mem_of_getElem? (i := 1) rfl)) (hts (.initialized "java/lang/IllegalArgumentException") (List.mem_of_getElem? (i := 2) rfl)) hsa (hat_A hE (fun w h => hts w (List.mem_cons_of_mem _ (List.mem_append_right _ h)))) good_A hZ.1 hZ.2.1 hS (hl.1.trans hml.symm) dX5_needRange_10 dX5_needRange_13 dX5_needRange_14 dX5_needRange_17 dX5_needRange_20 (fun x hx => (ht9 x hx).elim) (Nat.le_of_ble_eq_true rfl) (Nat.le_of_ble_eq_true rfl) (Nat.le_of_ble_eq_true rfl) (Nat.le_of_ble_eq_true rfl) hlocks (fun t _ hz hk => ⟨(), trivial, ⟨rfl, Or.inl c1⟩, ⟨hz, fun q hq _ => hk q hq⟩⟩) hS.2.2 (Nat.le_of_ble_eq_true rfl) (Nat.le_of_ble_eq_true rfl)
  refine lv_iload_n hx hb dX5_needRange_5 rfl (lv_at hl 0 rfl) ?_
  refine lv_iload_n hx hb dX5_needRange_6 rfl (lv_at hl 2 rfl) ?_
  refine lv_icmp_le (tgt := 21) hx hb dX5_needRange_7 (by decide) (fun c2 => ?_) (fun c2 => ?_)
  · refine W.widen (k := 1) (n := 6) (Nat.le_of_ble_eq_true rfl) (Nat.le_of_ble_eq_true rfl) ?_
    refine vx_ret ?_
    exact W.vret hx hb hr (fun t ht hW => ⟨⟨s.heap, rfl, ⟨rfl, c1, Int32.not_lt.mpr c2⟩, ht⟩, hS.F ht⟩) hS.2.2 dX5_needRange_21
  obtain ⟨sa, hsa⟩ := hE.2 (281, "a number is out of range") (List.mem_of_getElem? (i := 12) rfl)
  exact vx_throwSW hx hb hl9 (A := nA) (cls := "java/lang/IllegalArgumentException") (names := ["java/lang/RuntimeException", "java/lang/Exception"]) hown fit_A fit_N (hts (.classLink RX5 168 "java/lang/IllegalArgumentException") (List.mem_of_getElem? (i := 1) rfl)) (hts (.initialized "java/lang/IllegalArgumentException") (List.mem_of_getElem? (i := 2) rfl)) hsa (hat_A hE (fun w h => hts w (List.mem_cons_of_mem _ (List.mem_append_right _ h)))) good_A hZ.1 hZ.2.1 hS (hl.1.trans hml.symm) dX5_needRange_10 dX5_needRange_13 dX5_needRange_14 dX5_needRange_17 dX5_needRange_20 (fun x hx => (ht9 x hx).elim) (Nat.le_of_ble_eq_true rfl) (Nat.le_of_ble_eq_true rfl) (Nat.le_of_ble_eq_true rfl) (Nat.le_of_ble_eq_true rfl) hlocks (fun t _ hz hk => ⟨(), trivial, ⟨rfl, Or.inr (Int32.not_le.mp c2)⟩, ⟨hz, fun q hq _ => hk q hq⟩⟩) hS.2.2 (Nat.le_of_ble_eq_true rfl) (Nat.le_of_ble_eq_true rfl)
