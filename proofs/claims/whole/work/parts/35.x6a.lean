set_option maxHeartbeats 600000 in
set_option maxRecDepth 100000 in
theorem c_X6_of (l : Launch) (D : va_G) (G : Nat → ClassId) (μ : Nat → Nat) (R S N E P B L1 L2 L3 : Nat → Int32) (sm kp th la ln sp od : Int32) (hs : Int64) (j w v : Nat) (H : Heap) (hμ : inj 10 μ) (hM : MO D G μ R S N E P B L1 L2 L3 sm kp th la ln sp od hs H) (hj : j < 3) (hw : w < 10) (hv : v = 8 + w) : Met l yX6_of wsX6_of ({ frames := 0, cells := 0, slots := 0, locals := 0 } : Room) (va_Pc [.ref (μ 0), .int (nI j), .int (nI w)] (CX D G H)) (QI nA (fun r h => H = h ∧ R (v + 10 * j) = r)) 0 0 (nA) := by
  refine Met.ofW (cc := cX6_of) (maxL := 3) (ret := (some .int)) (by decide) rfl ?_
  intro p e s m args below meth c s₁ B0 hml hv
  obtain ⟨rfl, rfl, hK, hN⟩ := hv
  have hx := B0.exec
  have hb := B0.bytes
  have hr := B0.returns
  have hts := atoms_spec (ws := wsX6_of) B0.pre
  have hown : s.vm.findClass RX6 = some m.cls := findClass_of_methodNamed B0.named
  have hlocks := B0.notSynchronized
  have hF : CallFix p m c cX6_of 3 s ([.ref (μ 0), .int (nI j), .int (nI w)] : List Value).toArray wsX6_of RX6 := ⟨hx, hb, hml, hown, hts⟩
  have hS : va_S (nA) s.heap s.heap [] := va_S.rf
  have hl := lv_entry ([.ref (μ 0), .int (nI j), .int (nI w)]) (n := 3) (Nat.le_of_ble_eq_true rfl)
  rw [lg_entry_eq]
  generalize (lg_sl ([.ref (μ 0), .int (nI j), .int (nI w)]) ++ List.replicate (3 - (lg_sl ([.ref (μ 0), .int (nI j), .int (nI w)])).length) Slot.unset).toArray = ls at hl ⊢
  have hl : lv_has ls 3 [(0, .ref (μ 0)), (1, .int (nI j)), (2, .int (nI w))] := hl
  refine lv_aload_n hx hb dX6_of_0 rfl (lv_at hl 0 rfl) ?_
  refine dp_get hx hb hts (dp_hin 2 rfl) hown hK hM.1 rfl 0 (by decide) (hts (.fieldLink RX6 7 "DroopBoardModel" "row" "[I") (List.mem_of_getElem? (i := 1) rfl)) rfl dX6_of_1 ?_
  refine lv_bipush (v := 8) hx hb dX6_of_4 (by decide) ?_
  refine lv_bipush (v := 10) hx hb dX6_of_6 (by decide) ?_
  refine lv_iload_n hx hb dX6_of_8 rfl (lv_at hl 1 rfl) ?_
  refine lv_imul hx hb dX6_of_9 ?_
  refine lv_iadd hx hb dX6_of_10 ?_
  refine lv_iload_n hx hb dX6_of_11 rfl (lv_at hl 2 rfl) ?_
  refine lv_iadd hx hb dX6_of_12 ?_
  rw [mI_of hv]
  refine dp_iald hx hb hK hM.2.1 0 rfl ((v + 10 * j)) rfl (by omega) (by decide) dX6_of_13 ?_
  exact W.iret hx hb hr (fun t ht hW => ⟨⟨R ((v + 10 * j)), s.heap, rfl, ⟨rfl, rfl⟩, ht⟩, hS.F ht⟩) hS.2.2 dX6_of_14

set_option maxHeartbeats 600000 in
set_option maxRecDepth 100000 in
theorem c_X6_ofLine (l : Launch) (D : va_G) (G : Nat → ClassId) (μ : Nat → Nat) (R S N E P B L1 L2 L3 : Nat → Int32) (sm kp th la ln sp od : Int32) (hs : Int64) (j w v : Nat) (H : Heap) (hμ : inj 10 μ) (hM : MO D G μ R S N E P B L1 L2 L3 sm kp th la ln sp od hs H) (hj : j < 4) (hw : w < 3) (hv : v = 38 + w) : Met l yX6_ofLine wsX6_ofLine ({ frames := 0, cells := 0, slots := 0, locals := 0 } : Room) (va_Pc [.ref (μ 0), .int (nI j), .int (nI w)] (CX D G H)) (QI nA (fun r h => H = h ∧ R (v + 3 * j) = r)) 0 0 (nA) := by
  refine Met.ofW (cc := cX6_ofLine) (maxL := 3) (ret := (some .int)) (by decide) rfl ?_
  intro p e s m args below meth c s₁ B0 hml hv
  obtain ⟨rfl, rfl, hK, hN⟩ := hv
  have hx := B0.exec
  have hb := B0.bytes
  have hr := B0.returns
  have hts := atoms_spec (ws := wsX6_ofLine) B0.pre
  have hown : s.vm.findClass RX6 = some m.cls := findClass_of_methodNamed B0.named
  have hlocks := B0.notSynchronized
  have hF : CallFix p m c cX6_ofLine 3 s ([.ref (μ 0), .int (nI j), .int (nI w)] : List Value).toArray wsX6_ofLine RX6 := ⟨hx, hb, hml, hown, hts⟩
  have hS : va_S (nA) s.heap s.heap [] := va_S.rf
  have hl := lv_entry ([.ref (μ 0), .int (nI j), .int (nI w)]) (n := 3) (Nat.le_of_ble_eq_true rfl)
  rw [lg_entry_eq]
  generalize (lg_sl ([.ref (μ 0), .int (nI j), .int (nI w)]) ++ List.replicate (3 - (lg_sl ([.ref (μ 0), .int (nI j), .int (nI w)])).length) Slot.unset).toArray = ls at hl ⊢
  have hl : lv_has ls 3 [(0, .ref (μ 0)), (1, .int (nI j)), (2, .int (nI w))] := hl
  refine lv_aload_n hx hb dX6_ofLine_0 rfl (lv_at hl 0 rfl) ?_
  refine dp_get hx hb hts (dp_hin 2 rfl) hown hK hM.1 rfl 0 (by decide) (hts (.fieldLink RX6 7 "DroopBoardModel" "row" "[I") (List.mem_of_getElem? (i := 1) rfl)) rfl dX6_ofLine_1 ?_
  refine lv_bipush (v := 38) hx hb dX6_ofLine_4 (by decide) ?_
  refine lv_iconst (v := 3) hx hb dX6_ofLine_6 (by decide) ?_
  refine lv_iload_n hx hb dX6_ofLine_7 rfl (lv_at hl 1 rfl) ?_
  refine lv_imul hx hb dX6_ofLine_8 ?_
  refine lv_iadd hx hb dX6_ofLine_9 ?_
  refine lv_iload_n hx hb dX6_ofLine_10 rfl (lv_at hl 2 rfl) ?_
  refine lv_iadd hx hb dX6_ofLine_11 ?_
  rw [mI_ln hv]
  refine dp_iald hx hb hK hM.2.1 0 rfl ((v + 3 * j)) rfl (by omega) (by decide) dX6_ofLine_12 ?_
  exact W.iret hx hb hr (fun t ht hW => ⟨⟨R ((v + 3 * j)), s.heap, rfl, ⟨rfl, rfl⟩, ht⟩, hS.F ht⟩) hS.2.2 dX6_ofLine_13

set_option maxHeartbeats 600000 in
set_option maxRecDepth 100000 in
theorem c_X6_put (l : Launch) (D : va_G) (G : Nat → ClassId) (μ : Nat → Nat) (R S N E P B L1 L2 L3 : Nat → Int32) (sm kp th la ln sp od : Int32) (hs : Int64) (j w v : Nat) (x : Int32) (H : Heap) (hμ : inj 10 μ) (hM : MO D G μ R S N E P B L1 L2 L3 sm kp th la ln sp od hs H) (hj : j < 3) (hw : w < 10) (hv : v = 8 + w) : Met l yX6_put wsX6_put ({ frames := 0, cells := 0, slots := 0, locals := 0 } : Room) (va_Pc [.ref (μ 0), .int (nI j), .int (nI w), .int x] (CX D G H)) (QV (A6 μ) (fun h => MO D G μ (upd R (v + 10 * j) x) S N E P B L1 L2 L3 sm kp th la ln sp od hs h)) 0 0 (A6 μ) := by
  refine Met.ofW (cc := cX6_put) (maxL := 4) (ret := none) (by decide) rfl ?_
  intro p e s m args below meth c s₁ B0 hml hv
  obtain ⟨rfl, rfl, hK, hN⟩ := hv
  have hx := B0.exec
  have hb := B0.bytes
  have hr := B0.returns
  have hts := atoms_spec (ws := wsX6_put) B0.pre
  have hown : s.vm.findClass RX6 = some m.cls := findClass_of_methodNamed B0.named
  have hlocks := B0.notSynchronized
  have hF : CallFix p m c cX6_put 4 s ([.ref (μ 0), .int (nI j), .int (nI w), .int x] : List Value).toArray wsX6_put RX6 := ⟨hx, hb, hml, hown, hts⟩
  have hS : va_S (A6 μ) s.heap s.heap [] := va_S.rf
  have hl := lv_entry ([.ref (μ 0), .int (nI j), .int (nI w), .int x]) (n := 4) (Nat.le_of_ble_eq_true rfl)
  rw [lg_entry_eq]
  generalize (lg_sl ([.ref (μ 0), .int (nI j), .int (nI w), .int x]) ++ List.replicate (4 - (lg_sl ([.ref (μ 0), .int (nI j), .int (nI w), .int x])).length) Slot.unset).toArray = ls at hl ⊢
  have hl : lv_has ls 4 [(0, .ref (μ 0)), (1, .int (nI j)), (2, .int (nI w)), (3, .int x)] := hl
  refine lv_aload_n hx hb dX6_put_0 rfl (lv_at hl 0 rfl) ?_
  refine dp_get hx hb hts (dp_hin 2 rfl) hown hK hM.1 rfl 0 (by decide) (hts (.fieldLink RX6 7 "DroopBoardModel" "row" "[I") (List.mem_of_getElem? (i := 1) rfl)) rfl dX6_put_1 ?_
  refine lv_bipush (v := 8) hx hb dX6_put_4 (by decide) ?_
  refine lv_bipush (v := 10) hx hb dX6_put_6 (by decide) ?_
  refine lv_iload_n hx hb dX6_put_8 rfl (lv_at hl 1 rfl) ?_
  refine lv_imul hx hb dX6_put_9 ?_
  refine lv_iadd hx hb dX6_put_10 ?_
  refine lv_iload_n hx hb dX6_put_11 rfl (lv_at hl 2 rfl) ?_
  refine lv_iadd hx hb dX6_put_12 ?_
  rw [mI_of hv]
  refine lv_iload_n hx hb dX6_put_13 rfl (lv_at hl 3 rfl) ?_
  refine dp_iast (A := A6 μ) hx hb hK hM.2.1 (⟨1, by decide, rfl⟩ : A6 μ (μ 1)) hS 0 rfl ((v + 10 * j)) rfl (by omega) (by decide) dX6_put_14 (fun H1 locs hH1 hzH1 hkH1 hS => ?_)
  have hM := hM.a1 (X' := upd R ((v + 10 * j)) x) hμ hH1 hkH1
  exact W.vret hx hb hr (fun t ht hW => ⟨⟨H1, rfl, hM, ht⟩, hS.F ht⟩) hS.2.2 dX6_put_15

set_option maxHeartbeats 600000 in
set_option maxRecDepth 100000 in
theorem c_X6_in (l : Launch) (D : va_G) (G : Nat → ClassId) (x a b : Int32) (H : Heap)  : Met l yX6_in wsX6_in ({ frames := 0, cells := 0, slots := 0, locals := 0 } : Room) (va_Pc [.int x, .int a, .int b] (CX D G H)) (QI nA (fun r h => H = h ∧ (if x < a then 0 else if b < x then 0 else 1) = r)) 0 0 (nA) := by
  refine Met.ofW (cc := cX6_in) (maxL := 3) (ret := (some .boolean)) (by decide) rfl ?_
  intro p e s m args below meth c s₁ B0 hml hv
  obtain ⟨rfl, rfl, hK, hN⟩ := hv
  have hx := B0.exec
  have hb := B0.bytes
  have hr := B0.returns
  have hts := atoms_spec (ws := wsX6_in) B0.pre
  have hown : s.vm.findClass RX6 = some m.cls := findClass_of_methodNamed B0.named
  have hlocks := B0.notSynchronized
  have hF : CallFix p m c cX6_in 3 s ([.int x, .int a, .int b] : List Value).toArray wsX6_in RX6 := ⟨hx, hb, hml, hown, hts⟩
  have hS : va_S (nA) s.heap s.heap [] := va_S.rf
  have hl := lv_entry ([.int x, .int a, .int b]) (n := 3) (Nat.le_of_ble_eq_true rfl)
  rw [lg_entry_eq]
  generalize (lg_sl ([.int x, .int a, .int b]) ++ List.replicate (3 - (lg_sl ([.int x, .int a, .int b])).length) Slot.unset).toArray = ls at hl ⊢
  have hl : lv_has ls 3 [(0, .int x), (1, .int a), (2, .int b)] := hl
  refine lv_iload_n hx hb dX6_in_0 rfl (lv_at hl 0 rfl) ?_
  refine lv_iload_n hx hb dX6_in_1 rfl (lv_at hl 1 rfl) ?_
  refine lv_icmp_lt (tgt := 14) hx hb dX6_in_2 (by decide) (fun c1 => ?_) (fun c1 => ?_)
  · refine lv_iconst (v := 0) hx hb dX6_in_14 (by decide) ?_
    exact W.zret (ty := .boolean) hx hb hr rfl (fun t ht hW => ⟨⟨0, s.heap, rfl, ⟨rfl, by rw [if_pos c1]⟩, ht⟩, hS.F ht⟩) hS.2.2 dX6_in_15
  refine lv_iload_n hx hb dX6_in_5 rfl (lv_at hl 0 rfl) ?_
  refine lv_iload_n hx hb dX6_in_6 rfl (lv_at hl 2 rfl) ?_
  refine lv_icmp_gt (tgt := 14) hx hb dX6_in_7 (by decide) (fun c2 => ?_) (fun c2 => ?_)
  · refine lv_iconst (v := 0) hx hb dX6_in_14 (by decide) ?_
    exact W.zret (ty := .boolean) hx hb hr rfl (fun t ht hW => ⟨⟨0, s.heap, rfl, ⟨rfl, by simp [c1, c2]⟩, ht⟩, hS.F ht⟩) hS.2.2 dX6_in_15
  refine lv_iconst (v := 1) hx hb dX6_in_10 (by decide) ?_
  refine lv_goto (tgt := 15) hx hb dX6_in_11 (by decide) ?_
  exact W.zret (ty := .boolean) hx hb hr rfl (fun t ht hW => ⟨⟨1, s.heap, rfl, ⟨rfl, by simp [c1, c2]⟩, ht⟩, hS.F ht⟩) hS.2.2 dX6_in_15

set_option maxHeartbeats 600000 in
set_option maxRecDepth 100000 in
theorem c_X6_isSet (l : Launch) (D : va_G) (G : Nat → ClassId) (i : Int32) (H : Heap)  : Met l yX6_isSet wsX6_isSet ({ frames := 1, cells := 0, slots := 0, locals := 22 } : Room) (va_Pc [.int i] (CX D G H)) (QI nA (fun r h => H = h ∧ (if i < 0 then 0 else if 2 < i then 0 else 1) = r)) 0 0 (nA) := by
  refine Met.ofW (cc := cX6_isSet) (maxL := 1) (ret := (some .boolean)) (by decide) rfl ?_
  intro p e s m args below meth c s₁ B0 hml hv
  obtain ⟨rfl, rfl, hK, hN⟩ := hv
  have hx := B0.exec
  have hb := B0.bytes
  have hr := B0.returns
  have hts := atoms_spec (ws := wsX6_isSet) B0.pre
  have hown : s.vm.findClass RX6 = some m.cls := findClass_of_methodNamed B0.named
  have hlocks := B0.notSynchronized
  have hF : CallFix p m c cX6_isSet 1 s ([.int i] : List Value).toArray wsX6_isSet RX6 := ⟨hx, hb, hml, hown, hts⟩
  have hS : va_S (nA) s.heap s.heap [] := va_S.rf
  have hl := lv_entry ([.int i]) (n := 1) (Nat.le_of_ble_eq_true rfl)
  rw [lg_entry_eq]
  generalize (lg_sl ([.int i]) ++ List.replicate (1 - (lg_sl ([.int i])).length) Slot.unset).toArray = ls at hl ⊢
  have hl : lv_has ls 1 [(0, .int i)] := hl
  refine lv_iload_n hx hb dX6_isSet_0 rfl (lv_at hl 0 rfl) ?_
  refine lv_iconst (v := 0) hx hb dX6_isSet_1 (by decide) ?_
  refine lv_iconst (v := 2) hx hb dX6_isSet_2 (by decide) ?_
  refine dp_Si hF hK hN (c_X6_in l D G i 0 2 _) (va_cwS 3 hts gX6_isSet_X6_in rfl rfl rfl (by decide +kernel) ⟨Nat.le_of_ble_eq_true rfl, Nat.le_of_ble_eq_true rfl⟩) hS nA_i [] rfl rfl hl.1 (Nat.le_of_ble_eq_true rfl) dX6_isSet_3 ⟨Nat.le_of_ble_eq_true rfl, Nat.le_of_ble_eq_true rfl⟩ (fun rH1 H1 locs hp hzH1 hkH1 hS => ?_)
  obtain ⟨rfl, rfl⟩ := hp
  exact W.zret (ty := .boolean) hx hb hr (nz_n (by split; exact Or.inl rfl; split; exact Or.inl rfl; exact Or.inr rfl)) (fun t ht hW => ⟨⟨(if i < 0 then 0 else if 2 < i then 0 else 1), s.heap, rfl, ⟨rfl, rfl⟩, ht⟩, hS.F ht⟩) hS.2.2 dX6_isSet_6

set_option maxHeartbeats 600000 in
set_option maxRecDepth 100000 in
theorem c_X6_isFeeder (l : Launch) (D : va_G) (G : Nat → ClassId) (i : Int32) (H : Heap)  : Met l yX6_isFeeder wsX6_isFeeder ({ frames := 1, cells := 0, slots := 0, locals := 22 } : Room) (va_Pc [.int i] (CX D G H)) (QI nA (fun r h => H = h ∧ (if i < 0 then 0 else if 3 < i then 0 else 1) = r)) 0 0 (nA) := by
  refine Met.ofW (cc := cX6_isFeeder) (maxL := 1) (ret := (some .boolean)) (by decide) rfl ?_
  intro p e s m args below meth c s₁ B0 hml hv
  obtain ⟨rfl, rfl, hK, hN⟩ := hv
  have hx := B0.exec
  have hb := B0.bytes
  have hr := B0.returns
  have hts := atoms_spec (ws := wsX6_isFeeder) B0.pre
  have hown : s.vm.findClass RX6 = some m.cls := findClass_of_methodNamed B0.named
  have hlocks := B0.notSynchronized
  have hF : CallFix p m c cX6_isFeeder 1 s ([.int i] : List Value).toArray wsX6_isFeeder RX6 := ⟨hx, hb, hml, hown, hts⟩
  have hS : va_S (nA) s.heap s.heap [] := va_S.rf
  have hl := lv_entry ([.int i]) (n := 1) (Nat.le_of_ble_eq_true rfl)
  rw [lg_entry_eq]
  generalize (lg_sl ([.int i]) ++ List.replicate (1 - (lg_sl ([.int i])).length) Slot.unset).toArray = ls at hl ⊢
  have hl : lv_has ls 1 [(0, .int i)] := hl
  refine lv_iload_n hx hb dX6_isFeeder_0 rfl (lv_at hl 0 rfl) ?_
  refine lv_iconst (v := 0) hx hb dX6_isFeeder_1 (by decide) ?_
  refine lv_iconst (v := 3) hx hb dX6_isFeeder_2 (by decide) ?_
  refine dp_Si hF hK hN (c_X6_in l D G i 0 3 _) (va_cwS 3 hts gX6_isFeeder_X6_in rfl rfl rfl (by decide +kernel) ⟨Nat.le_of_ble_eq_true rfl, Nat.le_of_ble_eq_true rfl⟩) hS nA_i [] rfl rfl hl.1 (Nat.le_of_ble_eq_true rfl) dX6_isFeeder_3 ⟨Nat.le_of_ble_eq_true rfl, Nat.le_of_ble_eq_true rfl⟩ (fun rH1 H1 locs hp hzH1 hkH1 hS => ?_)
  obtain ⟨rfl, rfl⟩ := hp
  exact W.zret (ty := .boolean) hx hb hr (nz_n (by split; exact Or.inl rfl; split; exact Or.inl rfl; exact Or.inr rfl)) (fun t ht hW => ⟨⟨(if i < 0 then 0 else if 3 < i then 0 else 1), s.heap, rfl, ⟨rfl, rfl⟩, ht⟩, hS.F ht⟩) hS.2.2 dX6_isFeeder_6

set_option maxHeartbeats 600000 in
set_option maxRecDepth 100000 in
theorem c_X6_size (l : Launch) (D : va_G) (G : Nat → ClassId) (x : Int32) (H : Heap)  : Met l yX6_size wsX6_size ({ frames := 0, cells := 0, slots := 0, locals := 0 } : Room) (va_Pc [.int x] (CX D G H)) (QI nA (fun r h => H = h ∧ ab x = r)) 0 0 (nA) := by
  refine Met.ofW (cc := cX6_size) (maxL := 1) (ret := (some .int)) (by decide) rfl ?_
  intro p e s m args below meth c s₁ B0 hml hv
  obtain ⟨rfl, rfl, hK, hN⟩ := hv
  have hx := B0.exec
  have hb := B0.bytes
  have hr := B0.returns
  have hts := atoms_spec (ws := wsX6_size) B0.pre
  have hown : s.vm.findClass RX6 = some m.cls := findClass_of_methodNamed B0.named
  have hlocks := B0.notSynchronized
  have hF : CallFix p m c cX6_size 1 s ([.int x] : List Value).toArray wsX6_size RX6 := ⟨hx, hb, hml, hown, hts⟩
  have hS : va_S (nA) s.heap s.heap [] := va_S.rf
  have hl := lv_entry ([.int x]) (n := 1) (Nat.le_of_ble_eq_true rfl)
  rw [lg_entry_eq]
  generalize (lg_sl ([.int x]) ++ List.replicate (1 - (lg_sl ([.int x])).length) Slot.unset).toArray = ls at hl ⊢
  have hl : lv_has ls 1 [(0, .int x)] := hl
  refine lv_iload_n hx hb dX6_size_0 rfl (lv_at hl 0 rfl) ?_
  refine lv_if_ge (tgt := 9) hx hb dX6_size_1 (by decide) (fun c1 => ?_) (fun c1 => ?_)
  · refine lv_iload_n hx hb dX6_size_9 rfl (lv_at hl 0 rfl) ?_
    exact W.iret hx hb hr (fun t ht hW => ⟨⟨x, s.heap, rfl, ⟨rfl, by simp [ab, c1]⟩, ht⟩, hS.F ht⟩) hS.2.2 dX6_size_10
  refine lv_iload_n hx hb dX6_size_4 rfl (lv_at hl 0 rfl) ?_
  refine lv_ineg hx hb dX6_size_5 ?_
  refine lv_goto (tgt := 10) hx hb dX6_size_6 (by decide) ?_
  exact W.iret hx hb hr (fun t ht hW => ⟨⟨-x, s.heap, rfl, ⟨rfl, by simp [ab, c1]⟩, ht⟩, hS.F ht⟩) hS.2.2 dX6_size_10

set_option maxHeartbeats 600000 in
set_option maxRecDepth 100000 in
theorem c_X6_lamps (l : Launch) (D : va_G) (G : Nat → ClassId) (x : Int32) (H : Heap)  : Met l yX6_lamps wsX6_lamps ({ frames := 0, cells := 0, slots := 0, locals := 0 } : Room) (va_Pc [.int x] (CX D G H)) (QI nA (fun r h => H = h ∧ lam x = r)) 0 0 (nA) := by
  refine Met.ofW (cc := cX6_lamps) (maxL := 1) (ret := (some .int)) (by decide) rfl ?_
  intro p e s m args below meth c s₁ B0 hml hv
  obtain ⟨rfl, rfl, hK, hN⟩ := hv
  have hx := B0.exec
  have hb := B0.bytes
  have hr := B0.returns
  have hts := atoms_spec (ws := wsX6_lamps) B0.pre
  have hown : s.vm.findClass RX6 = some m.cls := findClass_of_methodNamed B0.named
  have hlocks := B0.notSynchronized
  have hF : CallFix p m c cX6_lamps 1 s ([.int x] : List Value).toArray wsX6_lamps RX6 := ⟨hx, hb, hml, hown, hts⟩
  have hS : va_S (nA) s.heap s.heap [] := va_S.rf
  have hl := lv_entry ([.int x]) (n := 1) (Nat.le_of_ble_eq_true rfl)
  rw [lg_entry_eq]
  generalize (lg_sl ([.int x]) ++ List.replicate (1 - (lg_sl ([.int x])).length) Slot.unset).toArray = ls at hl ⊢
  have hl : lv_has ls 1 [(0, .int x)] := hl
  refine lv_iload_n hx hb dX6_lamps_0 rfl (lv_at hl 0 rfl) ?_
  refine lv_sipush (v := 1000) hx hb dX6_lamps_1 (by decide) ?_
  refine lv_iload_n hx hb dX6_lamps_4 rfl (lv_at hl 0 rfl) ?_
  refine lv_isub hx hb dX6_lamps_5 ?_
  refine lv_icmp_ge (tgt := 13) hx hb dX6_lamps_6 (by decide) (fun c1 => ?_) (fun c1 => ?_)
  · refine lv_sipush (v := 1000) hx hb dX6_lamps_13 (by decide) ?_
    refine lv_iload_n hx hb dX6_lamps_16 rfl (lv_at hl 0 rfl) ?_
    refine lv_isub hx hb dX6_lamps_17 ?_
    exact W.iret hx hb hr (fun t ht hW => ⟨⟨1000 - x, s.heap, rfl, ⟨rfl, lam_m2 c1⟩, ht⟩, hS.F ht⟩) hS.2.2 dX6_lamps_18
  refine lv_iload_n hx hb dX6_lamps_9 rfl (lv_at hl 0 rfl) ?_
  refine lv_goto (tgt := 18) hx hb dX6_lamps_10 (by decide) ?_
  exact W.iret hx hb hr (fun t ht hW => ⟨⟨x, s.heap, rfl, ⟨rfl, lam_m1 (Int32.not_le.mp c1)⟩, ht⟩, hS.F ht⟩) hS.2.2 dX6_lamps_18

set_option maxHeartbeats 600000 in
set_option maxRecDepth 100000 in
theorem c_X6_thrown (l : Launch) (D : va_G) (G : Nat → ClassId) (μ : Nat → Nat) (R S N E P B L1 L2 L3 : Nat → Int32) (sm kp th la ln sp od : Int32) (hs : Int64)  (H : Heap) (hμ : inj 10 μ) (hM : MO D G μ R S N E P B L1 L2 L3 sm kp th la ln sp od hs H) : Met l yX6_thrown wsX6_thrown ({ frames := 0, cells := 0, slots := 0, locals := 0 } : Room) (va_Pc [.ref (μ 0)] (CX D G H)) (QI nA (fun r h => H = h ∧ th = r)) 0 0 (nA) := by
  refine Met.ofW (cc := cX6_thrown) (maxL := 1) (ret := (some .int)) (by decide) rfl ?_
  intro p e s m args below meth c s₁ B0 hml hv
  obtain ⟨rfl, rfl, hK, hN⟩ := hv
  have hx := B0.exec
  have hb := B0.bytes
  have hr := B0.returns
  have hts := atoms_spec (ws := wsX6_thrown) B0.pre
  have hown : s.vm.findClass RX6 = some m.cls := findClass_of_methodNamed B0.named
  have hlocks := B0.notSynchronized
  have hF : CallFix p m c cX6_thrown 1 s ([.ref (μ 0)] : List Value).toArray wsX6_thrown RX6 := ⟨hx, hb, hml, hown, hts⟩
  have hS : va_S (nA) s.heap s.heap [] := va_S.rf
  have hl := lv_entry ([.ref (μ 0)]) (n := 1) (Nat.le_of_ble_eq_true rfl)
  rw [lg_entry_eq]
  generalize (lg_sl ([.ref (μ 0)]) ++ List.replicate (1 - (lg_sl ([.ref (μ 0)])).length) Slot.unset).toArray = ls at hl ⊢
  have hl : lv_has ls 1 [(0, .ref (μ 0))] := hl
  refine lv_aload_n hx hb dX6_thrown_0 rfl (lv_at hl 0 rfl) ?_
  refine dp_get hx hb hts (dp_hin 2 rfl) hown hK hM.1 rfl 6 (by decide) (hts (.fieldLink RX6 41 "DroopBoardModel" "thrown" "I") (List.mem_of_getElem? (i := 1) rfl)) rfl dX6_thrown_1 ?_
  exact W.iret hx hb hr (fun t ht hW => ⟨⟨th, s.heap, rfl, ⟨rfl, rfl⟩, ht⟩, hS.F ht⟩) hS.2.2 dX6_thrown_4

set_option maxHeartbeats 600000 in
set_option maxRecDepth 100000 in
theorem c_X6_fails (l : Launch) (D : va_G) (G : Nat → ClassId) (μ : Nat → Nat) (R S N E P B L1 L2 L3 : Nat → Int32) (sm kp th la ln sp od : Int32) (hs : Int64) (x : Int32) (H : Heap) (hμ : inj 10 μ) (hM : MO D G μ R S N E P B L1 L2 L3 sm kp th la ln sp od hs H) : Met l yX6_fails wsX6_fails ({ frames := 0, cells := 0, slots := 0, locals := 0 } : Room) (va_Pc [.ref (μ 0), .int x] (CX D G H)) (QI (A6 μ) (fun r h => 0 = r ∧ MO D G μ R S N E P B L1 L2 L3 sm kp x la ln sp od hs h)) 0 0 (A6 μ) := by
  refine Met.ofW (cc := cX6_fails) (maxL := 2) (ret := (some .int)) (by decide) rfl ?_
  intro p e s m args below meth c s₁ B0 hml hv
  obtain ⟨rfl, rfl, hK, hN⟩ := hv
  have hx := B0.exec
  have hb := B0.bytes
  have hr := B0.returns
  have hts := atoms_spec (ws := wsX6_fails) B0.pre
  have hown : s.vm.findClass RX6 = some m.cls := findClass_of_methodNamed B0.named
  have hlocks := B0.notSynchronized
  have hF : CallFix p m c cX6_fails 2 s ([.ref (μ 0), .int x] : List Value).toArray wsX6_fails RX6 := ⟨hx, hb, hml, hown, hts⟩
  have hS : va_S (A6 μ) s.heap s.heap [] := va_S.rf
  have hl := lv_entry ([.ref (μ 0), .int x]) (n := 2) (Nat.le_of_ble_eq_true rfl)
  rw [lg_entry_eq]
  generalize (lg_sl ([.ref (μ 0), .int x]) ++ List.replicate (2 - (lg_sl ([.ref (μ 0), .int x])).length) Slot.unset).toArray = ls at hl ⊢
  have hl : lv_has ls 2 [(0, .ref (μ 0)), (1, .int x)] := hl
  refine lv_aload_n hx hb dX6_fails_0 rfl (lv_at hl 0 rfl) ?_
  refine lv_iload_n hx hb dX6_fails_1 rfl (lv_at hl 1 rfl) ?_
  refine dp_put (A := A6 μ) (v := .int x) hx hb hts (dp_hin 2 rfl) tyX6 tyX6_ok nmX6 hown hK hM.1 (⟨0, by decide, rfl⟩ : A6 μ (μ 0)) hS rfl 6 (by decide) (hts (.fieldLink RX6 41 "DroopBoardModel" "thrown" "I") (List.mem_of_getElem? (i := 1) rfl)) rfl rfl rfl (Nat.le_of_ble_eq_true rfl) dX6_fails_2 (fun H1 locs hH1 hzH1 hkH1 hS => ?_)
  have hM := hM.o (sm' := sm) (kp' := kp) (th' := x) (la' := la) (ln' := ln) (sp' := sp) (od' := od) (hs' := hs) hμ hH1 hkH1
  refine lv_iconst (v := 0) hx hb dX6_fails_5 (by decide) ?_
  exact W.iret hx hb hr (fun t ht hW => ⟨⟨0, H1, rfl, ⟨rfl, hM⟩, ht⟩, hS.F ht⟩) hS.2.2 dX6_fails_6

set_option maxHeartbeats 600000 in
set_option maxRecDepth 100000 in
theorem c_X6_sum (l : Launch) (D : va_G) (G : Nat → ClassId) (μ : Nat → Nat) (R S N E P B L1 L2 L3 : Nat → Int32) (sm kp th la ln sp od : Int32) (hs : Int64) (w v : Nat) (H : Heap) (hμ : inj 10 μ) (hM : MO D G μ R S N E P B L1 L2 L3 sm kp th la ln sp od hs H) (hw : w < 10) (hv : v = 8 + w) : Met l yX6_sum wsX6_sum ({ frames := 1, cells := 0, slots := 0, locals := 22 } : Room) (va_Pc [.ref (μ 0), .int (nI w)] (CX D G H)) (QI nA (fun r h => H = h ∧ sm3 R v = r)) 0 0 (nA) := by
  refine Met.ofW (cc := cX6_sum) (maxL := 2) (ret := (some .int)) (by decide) rfl ?_
  intro p e s m args below meth c s₁ B0 hml hv
  obtain ⟨rfl, rfl, hK, hN⟩ := hv
  have hx := B0.exec
  have hb := B0.bytes
  have hr := B0.returns
  have hts := atoms_spec (ws := wsX6_sum) B0.pre
  have hown : s.vm.findClass RX6 = some m.cls := findClass_of_methodNamed B0.named
  have hlocks := B0.notSynchronized
  have hF : CallFix p m c cX6_sum 2 s ([.ref (μ 0), .int (nI w)] : List Value).toArray wsX6_sum RX6 := ⟨hx, hb, hml, hown, hts⟩
  have hS : va_S (nA) s.heap s.heap [] := va_S.rf
  have hl := lv_entry ([.ref (μ 0), .int (nI w)]) (n := 2) (Nat.le_of_ble_eq_true rfl)
  rw [lg_entry_eq]
  generalize (lg_sl ([.ref (μ 0), .int (nI w)]) ++ List.replicate (2 - (lg_sl ([.ref (μ 0), .int (nI w)])).length) Slot.unset).toArray = ls at hl ⊢
  have hl : lv_has ls 2 [(0, .ref (μ 0)), (1, .int (nI w))] := hl
  refine lv_aload_n hx hb dX6_sum_0 rfl (lv_at hl 0 rfl) ?_
  refine lv_iconst (v := 0) hx hb dX6_sum_1 (by decide) ?_
  refine lv_iload_n hx hb dX6_sum_2 rfl (lv_at hl 1 rfl) ?_
  refine dp_Vi hF hK hN (c_X6_of l D G μ R S N E P B L1 L2 L3 sm kp th la ln sp od hs 0 w v _ hμ hM (by decide) hw hv) (cwV 2 hts gX6_sum_X6_of rfl rfl rfl (by decide +kernel) ⟨Nat.le_of_ble_eq_true rfl, Nat.le_of_ble_eq_true rfl⟩) (dp_recv hK hM.1 rfl) hS nA_i [] rfl rfl hl.1 (Nat.le_of_ble_eq_true rfl) dX6_sum_3 ⟨Nat.le_of_ble_eq_true rfl, Nat.le_of_ble_eq_true rfl⟩ (fun rH1 H1 locs hp hzH1 hkH1 hS => ?_)
  obtain ⟨rfl, rfl⟩ := hp
  refine lv_aload_n hx hb dX6_sum_6 rfl (lv_at hl 0 rfl) ?_
  refine lv_iconst (v := 1) hx hb dX6_sum_7 (by decide) ?_
  refine lv_iload_n hx hb dX6_sum_8 rfl (lv_at hl 1 rfl) ?_
  refine dp_Vi hF hK hN (c_X6_of l D G μ R S N E P B L1 L2 L3 sm kp th la ln sp od hs 1 w v _ hμ hM (by decide) hw hv) (cwV 2 hts gX6_sum_X6_of rfl rfl rfl (by decide +kernel) ⟨Nat.le_of_ble_eq_true rfl, Nat.le_of_ble_eq_true rfl⟩) (dp_recv hK hM.1 rfl) hS nA_i [.int (R (v + 10 * 0))] rfl rfl hl.1 (Nat.le_of_ble_eq_true rfl) dX6_sum_9 ⟨Nat.le_of_ble_eq_true rfl, Nat.le_of_ble_eq_true rfl⟩ (fun rH2 H2 locs hp hzH2 hkH2 hS => ?_)
  obtain ⟨rfl, rfl⟩ := hp
  refine lv_iadd hx hb dX6_sum_12 ?_
  refine lv_aload_n hx hb dX6_sum_13 rfl (lv_at hl 0 rfl) ?_
  refine lv_iconst (v := 2) hx hb dX6_sum_14 (by decide) ?_
  refine lv_iload_n hx hb dX6_sum_15 rfl (lv_at hl 1 rfl) ?_
  refine dp_Vi hF hK hN (c_X6_of l D G μ R S N E P B L1 L2 L3 sm kp th la ln sp od hs 2 w v _ hμ hM (by decide) hw hv) (cwV 2 hts gX6_sum_X6_of rfl rfl rfl (by decide +kernel) ⟨Nat.le_of_ble_eq_true rfl, Nat.le_of_ble_eq_true rfl⟩) (dp_recv hK hM.1 rfl) hS nA_i [.int ((R (v + 10 * 0)) + (R (v + 10 * 1)))] rfl rfl hl.1 (Nat.le_of_ble_eq_true rfl) dX6_sum_16 ⟨Nat.le_of_ble_eq_true rfl, Nat.le_of_ble_eq_true rfl⟩ (fun rH3 H3 locs hp hzH3 hkH3 hS => ?_)
  obtain ⟨rfl, rfl⟩ := hp
  refine lv_iadd hx hb dX6_sum_19 ?_
  exact W.iret hx hb hr (fun t ht hW => ⟨⟨((R (v + 10 * 0)) + (R (v + 10 * 1))) + (R (v + 10 * 2)), s.heap, rfl, ⟨rfl, rfl⟩, ht⟩, hS.F ht⟩) hS.2.2 dX6_sum_20

set_option maxHeartbeats 600000 in
set_option maxRecDepth 100000 in
theorem c_X6_isAlive (l : Launch) (D : va_G) (G : Nat → ClassId) (μ : Nat → Nat) (R S N E P B L1 L2 L3 : Nat → Int32) (sm kp th la ln sp od : Int32) (hs : Int64)  (H : Heap) (hμ : inj 10 μ) (hM : MO D G μ R S N E P B L1 L2 L3 sm kp th la ln sp od hs H) (hbz : bz R) : Met l yX6_isAlive wsX6_isAlive ({ frames := 2, cells := 0, slots := 0, locals := 43 } : Room) (va_Pc [.ref (μ 0)] (CX D G H)) (QI nA (fun r h => H = h ∧ alv R = r)) 0 0 (nA) := by
  refine Met.ofW (cc := cX6_isAlive) (maxL := 1) (ret := (some .boolean)) (by decide) rfl ?_
  intro p e s m args below meth c s₁ B0 hml hv
  obtain ⟨rfl, rfl, hK, hN⟩ := hv
  have hx := B0.exec
  have hb := B0.bytes
  have hr := B0.returns
  have hts := atoms_spec (ws := wsX6_isAlive) B0.pre
  have hown : s.vm.findClass RX6 = some m.cls := findClass_of_methodNamed B0.named
  have hlocks := B0.notSynchronized
  have hF : CallFix p m c cX6_isAlive 1 s ([.ref (μ 0)] : List Value).toArray wsX6_isAlive RX6 := ⟨hx, hb, hml, hown, hts⟩
  have hS : va_S (nA) s.heap s.heap [] := va_S.rf
  have hl := lv_entry ([.ref (μ 0)]) (n := 1) (Nat.le_of_ble_eq_true rfl)
  rw [lg_entry_eq]
  generalize (lg_sl ([.ref (μ 0)]) ++ List.replicate (1 - (lg_sl ([.ref (μ 0)])).length) Slot.unset).toArray = ls at hl ⊢
  have hl : lv_has ls 1 [(0, .ref (μ 0))] := hl
  refine lv_aload_n hx hb dX6_isAlive_0 rfl (lv_at hl 0 rfl) ?_
  refine lv_iconst (v := 4) hx hb dX6_isAlive_1 (by decide) ?_
  refine dp_Vi hF hK hN (c_X6_sum l D G μ R S N E P B L1 L2 L3 sm kp th la ln sp od hs 4 12 _ hμ hM (by decide) rfl) (cwV 1 hts gX6_isAlive_X6_sum rfl rfl rfl (by decide +kernel) ⟨Nat.le_of_ble_eq_true rfl, Nat.le_of_ble_eq_true rfl⟩) (dp_recv hK hM.1 rfl) hS nA_i [] rfl rfl hl.1 (Nat.le_of_ble_eq_true rfl) dX6_isAlive_2 ⟨Nat.le_of_ble_eq_true rfl, Nat.le_of_ble_eq_true rfl⟩ (fun rH1 H1 locs hp hzH1 hkH1 hS => ?_)
  obtain ⟨rfl, rfl⟩ := hp
  refine lv_if_le (tgt := 12) hx hb dX6_isAlive_5 (by decide) (fun c1 => ?_) (fun c1 => ?_)
  · refine lv_iconst (v := 0) hx hb dX6_isAlive_12 (by decide) ?_
    exact W.zret (ty := .boolean) hx hb hr rfl (fun t ht hW => ⟨⟨0, s.heap, rfl, ⟨rfl, al_le hbz c1⟩, ht⟩, hS.F ht⟩) hS.2.2 dX6_isAlive_13
  refine lv_iconst (v := 1) hx hb dX6_isAlive_8 (by decide) ?_
  refine lv_goto (tgt := 13) hx hb dX6_isAlive_9 (by decide) ?_
  exact W.zret (ty := .boolean) hx hb hr rfl (fun t ht hW => ⟨⟨1, s.heap, rfl, ⟨rfl, al_gt hbz c1⟩, ht⟩, hS.F ht⟩) hS.2.2 dX6_isAlive_13

set_option maxHeartbeats 600000 in
set_option maxRecDepth 100000 in
theorem c_X6_load (l : Launch) (D : va_G) (G : Nat → ClassId) (μ : Nat → Nat) (R S N E P B L1 L2 L3 : Nat → Int32) (sm kp th la ln sp od : Int32) (hs : Int64)  (H : Heap) (hμ : inj 10 μ) (hM : MO D G μ R S N E P B L1 L2 L3 sm kp th la ln sp od hs H) (hwz : wz R) : Met l yX6_load wsX6_load ({ frames := 3, cells := 0, slots := 0, locals := 63 } : Room) (va_Pc [.ref (μ 0)] (CX D G H)) (QI nA (fun r h => H = h ∧ ld R = r)) 0 0 (nA) := by
  refine Met.ofW (cc := cX6_load) (maxL := 3) (ret := (some .int)) (by decide) rfl ?_
  intro p e s m args below meth c s₁ B0 hml hv
  obtain ⟨rfl, rfl, hK, hN⟩ := hv
  have hx := B0.exec
  have hb := B0.bytes
  have hr := B0.returns
  have hts := atoms_spec (ws := wsX6_load) B0.pre
  have hown : s.vm.findClass RX6 = some m.cls := findClass_of_methodNamed B0.named
  have hlocks := B0.notSynchronized
  have hF : CallFix p m c cX6_load 3 s ([.ref (μ 0)] : List Value).toArray wsX6_load RX6 := ⟨hx, hb, hml, hown, hts⟩
  have hS : va_S (nA) s.heap s.heap [] := va_S.rf
  have hl := lv_entry ([.ref (μ 0)]) (n := 3) (Nat.le_of_ble_eq_true rfl)
  rw [lg_entry_eq]
  generalize (lg_sl ([.ref (μ 0)]) ++ List.replicate (3 - (lg_sl ([.ref (μ 0)])).length) Slot.unset).toArray = ls at hl ⊢
  have hl : lv_has ls 3 [(0, .ref (μ 0))] := hl
  refine lv_iconst (v := 0) hx hb dX6_load_0 (by decide) ?_
  refine lv_istore_n (lv' := [(1, .int 0), (0, .ref (μ 0))]) hx hb dX6_load_1 rfl hl (by decide) rfl (fun ls hl => ?_)
  refine lv_iconst (v := 0) hx hb dX6_load_2 (by decide) ?_
  refine lv_istore_n (lv' := [(2, .int 0), (1, .int 0), (0, .ref (μ 0))]) hx hb dX6_load_3 rfl hl (by decide) rfl (fun ls hl => ?_)
  have loop4 : ∀ (m9 : Nat) (i : Nat) (all : Int32) (_ : i + m9 = 4) (_ : all = lsum R i) (_ : i = 0 ∨ ¬ alv R = 0) (locs : List Loc) (_ : va_S (nA) s.heap s.heap locs) (ls : Array Slot) (_ : lv_has ls 3 [(0, .ref (μ 0)), (1, .int all), (2, .int (nI i))]), W p l e (headSpec wsX6_load ({ frames := 3, cells := 0, slots := 0, locals := 63 } : Room)).room s m ([.ref (μ 0)] : List Value).toArray below meth c s.heap locs 0 0 (MQ below (QI nA (fun r h => s.heap = h ∧ ld R = r)) ([.ref (μ 0)] : List Value).toArray s 0 0 (nA)) (F0 m 4 ls []) := by
    intro m9
    induction m9 with
    | zero =>
      intro i all hin hacc hal locs hS ls hl
      refine lv_iload_n hx hb dX6_load_4 rfl (lv_at hl 2 rfl) ?_
      refine lv_iconst (v := 4) hx hb dX6_load_5 (by decide) ?_
      refine lv_icmp_ge (tgt := 45) hx hb dX6_load_6 (by decide) (fun c1 => ?_) (fun c1 => absurd (nI_le (a := 4) (b := i) (by omega) (by omega)) c1)
      refine lv_iload_n hx hb dX6_load_45 rfl (lv_at hl 1 rfl) ?_
      exact W.iret hx hb hr (fun t ht hW => ⟨⟨all, s.heap, rfl, ⟨rfl, by rw [ld, if_neg (hal.resolve_left (by omega)), hacc, show i = 4 by omega]⟩, ht⟩, hS.F ht⟩) hS.2.2 dX6_load_46
    | succ m9 ih4 =>
      intro i all hin hacc hal locs hS ls hl
      refine lv_iload_n hx hb dX6_load_4 rfl (lv_at hl 2 rfl) ?_
      refine lv_iconst (v := 4) hx hb dX6_load_5 (by decide) ?_
      refine lv_icmp_ge (tgt := 45) hx hb dX6_load_6 (by decide) (fun c2 => absurd c2 (nI_ge (a := i) (b := 4) (by omega) (by omega))) (fun c2 => ?_)
      refine lv_aload_n hx hb dX6_load_9 rfl (lv_at hl 0 rfl) ?_
      refine dp_Vi hF hK hN (c_X6_isAlive l D G μ R S N E P B L1 L2 L3 sm kp th la ln sp od hs  _ hμ hM hwz.1) (cwV 0 hts gX6_load_X6_isAlive rfl rfl rfl (by decide +kernel) ⟨Nat.le_of_ble_eq_true rfl, Nat.le_of_ble_eq_true rfl⟩) (dp_recv hK hM.1 rfl) hS nA_i [] rfl rfl hl.1 (Nat.le_of_ble_eq_true rfl) dX6_load_10 ⟨Nat.le_of_ble_eq_true rfl, Nat.le_of_ble_eq_true rfl⟩ (fun rH1 H1 locs hp hzH1 hkH1 hS => ?_)
      obtain ⟨rfl, rfl⟩ := hp
      refine lv_if_eq (tgt := 45) hx hb dX6_load_13 (by decide) (fun c3 => ?_) (fun c3 => ?_)
      · refine lv_iload_n hx hb dX6_load_45 rfl (lv_at hl 1 rfl) ?_
        exact W.iret hx hb hr (fun t ht hW => ⟨⟨all, s.heap, rfl, ⟨rfl, by rw [ld, if_pos c3, hacc, hal.resolve_right (fun q => q c3)]; rfl⟩, ht⟩, hS.F ht⟩) hS.2.2 dX6_load_46
      refine lv_iload_n hx hb dX6_load_16 rfl (lv_at hl 1 rfl) ?_
      refine lv_aload_n hx hb dX6_load_17 rfl (lv_at hl 0 rfl) ?_
      refine lv_iload_n hx hb dX6_load_18 rfl (lv_at hl 2 rfl) ?_
      refine lv_iconst (v := 1) hx hb dX6_load_19 (by decide) ?_
      refine dp_Vi hF hK hN (c_X6_ofLine l D G μ R S N E P B L1 L2 L3 sm kp th la ln sp od hs i 1 39 _ hμ hM (by omega) (by decide) rfl) (cwV 2 hts gX6_load_X6_ofLine rfl rfl rfl (by decide +kernel) ⟨Nat.le_of_ble_eq_true rfl, Nat.le_of_ble_eq_true rfl⟩) (dp_recv hK hM.1 rfl) hS nA_i [.int all] rfl rfl hl.1 (Nat.le_of_ble_eq_true rfl) dX6_load_20 ⟨Nat.le_of_ble_eq_true rfl, Nat.le_of_ble_eq_true rfl⟩ (fun rH2 H2 locs hp hzH2 hkH2 hS => ?_)
      obtain ⟨rfl, rfl⟩ := hp
      refine lv_iconst (v := 1) hx hb dX6_load_23 (by decide) ?_
      refine lv_icmp_ne (tgt := 36) hx hb dX6_load_24 (by decide) (fun c4 => ?_) (fun c4 => ?_)
      · refine lv_iconst (v := 0) hx hb dX6_load_36 (by decide) ?_
        refine lv_iadd hx hb dX6_load_37 ?_
        refine lv_istore_n (lv' := [(1, .int (all + 0)), (0, .ref (μ 0)), (2, .int (nI i))]) hx hb dX6_load_38 rfl hl (by decide) rfl (fun ls hl => ?_)
        refine lv_iinc (v := nI (i + 1)) (lv' := [(2, .int (nI (i + 1))), (1, .int (all + 0)), (0, .ref (μ 0))]) hx hb dX6_load_39 hl (k := 2) rfl (nI_1 i) (by decide) rfl (fun ls hl => ?_)
        refine lv_goto (tgt := 4) hx hb dX6_load_42 (by decide) ?_
        exact ih4 (i + 1) (all + 0) (by omega) (by rw [hacc]; exact (ls_off hwz.1 (by omega) c4).symm) (Or.inr c3) _ hS _ (lv_sub hl [2, 1, 0] rfl)
      refine lv_aload_n hx hb dX6_load_27 rfl (lv_at hl 0 rfl) ?_
      refine lv_iload_n hx hb dX6_load_28 rfl (lv_at hl 2 rfl) ?_
      refine lv_iconst (v := 0) hx hb dX6_load_29 (by decide) ?_
      refine dp_Vi hF hK hN (c_X6_ofLine l D G μ R S N E P B L1 L2 L3 sm kp th la ln sp od hs i 0 38 _ hμ hM (by omega) (by decide) rfl) (cwV 2 hts gX6_load_X6_ofLine rfl rfl rfl (by decide +kernel) ⟨Nat.le_of_ble_eq_true rfl, Nat.le_of_ble_eq_true rfl⟩) (dp_recv hK hM.1 rfl) hS nA_i [.int all] rfl rfl hl.1 (Nat.le_of_ble_eq_true rfl) dX6_load_30 ⟨Nat.le_of_ble_eq_true rfl, Nat.le_of_ble_eq_true rfl⟩ (fun rH3 H3 locs hp hzH3 hkH3 hS => ?_)
      obtain ⟨rfl, rfl⟩ := hp
      refine lv_goto (tgt := 37) hx hb dX6_load_33 (by decide) ?_
      refine lv_iadd hx hb dX6_load_37 ?_
      refine lv_istore_n (lv' := [(1, .int (all + (R (38 + 3 * i)))), (0, .ref (μ 0)), (2, .int (nI i))]) hx hb dX6_load_38 rfl hl (by decide) rfl (fun ls hl => ?_)
      refine lv_iinc (v := nI (i + 1)) (lv' := [(2, .int (nI (i + 1))), (1, .int (all + (R (38 + 3 * i)))), (0, .ref (μ 0))]) hx hb dX6_load_39 hl (k := 2) rfl (nI_1 i) (by decide) rfl (fun ls hl => ?_)
      refine lv_goto (tgt := 4) hx hb dX6_load_42 (by decide) ?_
      exact ih4 (i + 1) (all + (R (38 + 3 * i))) (by omega) (by rw [hacc]; exact (ls_on c4).symm) (Or.inr c3) _ hS _ (lv_sub hl [2, 1, 0] rfl)
  exact loop4 4 0 0 rfl rfl (Or.inl rfl) _ hS _ (lv_sub hl [2, 1, 0] rfl)

set_option maxHeartbeats 600000 in
set_option maxRecDepth 100000 in
theorem c_X6_given (l : Launch) (D : va_G) (G : Nat → ClassId) (μ : Nat → Nat) (R S N E P B L1 L2 L3 : Nat → Int32) (sm kp th la ln sp od : Int32) (hs : Int64) (j : Nat) (f : Int32) (H : Heap) (hμ : inj 10 μ) (hM : MO D G μ R S N E P B L1 L2 L3 sm kp th la ln sp od hs H) (hwz : wz R) (hj : j < 3) : Met l yX6_given wsX6_given ({ frames := 1, cells := 0, slots := 0, locals := 22 } : Room) (va_Pc [.ref (μ 0), .int (nI j), .int f] (CX D G H)) (QI nA (fun r h => H = h ∧ gv R j f = r)) 0 0 (nA) := by
  refine Met.ofW (cc := cX6_given) (maxL := 3) (ret := (some .int)) (by decide) rfl ?_
  intro p e s m args below meth c s₁ B0 hml hv
  obtain ⟨rfl, rfl, hK, hN⟩ := hv
  have hx := B0.exec
  have hb := B0.bytes
  have hr := B0.returns
  have hts := atoms_spec (ws := wsX6_given) B0.pre
  have hown : s.vm.findClass RX6 = some m.cls := findClass_of_methodNamed B0.named
  have hlocks := B0.notSynchronized
  have hF : CallFix p m c cX6_given 3 s ([.ref (μ 0), .int (nI j), .int f] : List Value).toArray wsX6_given RX6 := ⟨hx, hb, hml, hown, hts⟩
  have hS : va_S (nA) s.heap s.heap [] := va_S.rf
  have hl := lv_entry ([.ref (μ 0), .int (nI j), .int f]) (n := 3) (Nat.le_of_ble_eq_true rfl)
  rw [lg_entry_eq]
  generalize (lg_sl ([.ref (μ 0), .int (nI j), .int f]) ++ List.replicate (3 - (lg_sl ([.ref (μ 0), .int (nI j), .int f])).length) Slot.unset).toArray = ls at hl ⊢
  have hl : lv_has ls 3 [(0, .ref (μ 0)), (1, .int (nI j)), (2, .int f)] := hl
  refine lv_aload_n hx hb dX6_given_0 rfl (lv_at hl 0 rfl) ?_
  refine lv_iload_n hx hb dX6_given_1 rfl (lv_at hl 1 rfl) ?_
  refine lv_iconst (v := 4) hx hb dX6_given_2 (by decide) ?_
  refine dp_Vi hF hK hN (c_X6_of l D G μ R S N E P B L1 L2 L3 sm kp th la ln sp od hs j 4 12 _ hμ hM (by omega) (by decide) rfl) (cwV 2 hts gX6_given_X6_of rfl rfl rfl (by decide +kernel) ⟨Nat.le_of_ble_eq_true rfl, Nat.le_of_ble_eq_true rfl⟩) (dp_recv hK hM.1 rfl) hS nA_i [] rfl rfl hl.1 (Nat.le_of_ble_eq_true rfl) dX6_given_3 ⟨Nat.le_of_ble_eq_true rfl, Nat.le_of_ble_eq_true rfl⟩ (fun rH1 H1 locs hp hzH1 hkH1 hS => ?_)
  obtain ⟨rfl, rfl⟩ := hp
  refine lv_if_ne (tgt := 13) hx hb dX6_given_6 (by decide) (fun c1 => ?_) (fun c1 => ?_)
  · refine lv_aload_n hx hb dX6_given_13 rfl (lv_at hl 0 rfl) ?_
    refine lv_iload_n hx hb dX6_given_14 rfl (lv_at hl 1 rfl) ?_
    refine lv_iconst (v := 2) hx hb dX6_given_15 (by decide) ?_
    refine dp_Vi hF hK hN (c_X6_of l D G μ R S N E P B L1 L2 L3 sm kp th la ln sp od hs j 2 10 _ hμ hM (by omega) (by decide) rfl) (cwV 2 hts gX6_given_X6_of rfl rfl rfl (by decide +kernel) ⟨Nat.le_of_ble_eq_true rfl, Nat.le_of_ble_eq_true rfl⟩) (dp_recv hK hM.1 rfl) hS nA_i [] rfl rfl hl.1 (Nat.le_of_ble_eq_true rfl) dX6_given_16 ⟨Nat.le_of_ble_eq_true rfl, Nat.le_of_ble_eq_true rfl⟩ (fun rH2 H2 locs hp hzH2 hkH2 hS => ?_)
    obtain ⟨rfl, rfl⟩ := hp
    refine lv_iload_n hx hb dX6_given_19 rfl (lv_at hl 2 rfl) ?_
    refine lv_isub hx hb dX6_given_20 ?_
    refine lv_aload_n hx hb dX6_given_21 rfl (lv_at hl 0 rfl) ?_
    refine lv_iload_n hx hb dX6_given_22 rfl (lv_at hl 1 rfl) ?_
    refine lv_iconst (v := 0) hx hb dX6_given_23 (by decide) ?_
    refine dp_Vi hF hK hN (c_X6_of l D G μ R S N E P B L1 L2 L3 sm kp th la ln sp od hs j 0 8 _ hμ hM (by omega) (by decide) rfl) (cwV 2 hts gX6_given_X6_of rfl rfl rfl (by decide +kernel) ⟨Nat.le_of_ble_eq_true rfl, Nat.le_of_ble_eq_true rfl⟩) (dp_recv hK hM.1 rfl) hS nA_i [.int ((R (10 + 10 * j)) - f)] rfl rfl hl.1 (Nat.le_of_ble_eq_true rfl) dX6_given_24 ⟨Nat.le_of_ble_eq_true rfl, Nat.le_of_ble_eq_true rfl⟩ (fun rH3 H3 locs hp hzH3 hkH3 hS => ?_)
    obtain ⟨rfl, rfl⟩ := hp
    refine lv_imul hx hb dX6_given_27 ?_
    refine lv_aload_n hx hb dX6_given_28 rfl (lv_at hl 0 rfl) ?_
    refine lv_iload_n hx hb dX6_given_29 rfl (lv_at hl 1 rfl) ?_
    refine lv_iconst (v := 1) hx hb dX6_given_30 (by decide) ?_
    refine dp_Vi hF hK hN (c_X6_of l D G μ R S N E P B L1 L2 L3 sm kp th la ln sp od hs j 1 9 _ hμ hM (by omega) (by decide) rfl) (cwV 2 hts gX6_given_X6_of rfl rfl rfl (by decide +kernel) ⟨Nat.le_of_ble_eq_true rfl, Nat.le_of_ble_eq_true rfl⟩) (dp_recv hK hM.1 rfl) hS nA_i [.int (((R (10 + 10 * j)) - f) * (R (8 + 10 * j)))] rfl rfl hl.1 (Nat.le_of_ble_eq_true rfl) dX6_given_31 ⟨Nat.le_of_ble_eq_true rfl, Nat.le_of_ble_eq_true rfl⟩ (fun rH4 H4 locs hp hzH4 hkH4 hS => ?_)
    obtain ⟨rfl, rfl⟩ := hp
    refine lv_idiv hx hb dX6_given_34 (hwz.2.1 j hj) ?_
    exact W.iret hx hb hr (fun t ht hW => ⟨⟨(((R (10 + 10 * j)) - f) * (R (8 + 10 * j))) / (R (9 + 10 * j)), s.heap, rfl, ⟨rfl, by rw [gv, if_neg c1]⟩, ht⟩, hS.F ht⟩) hS.2.2 dX6_given_35
  refine lv_iconst (v := 0) hx hb dX6_given_9 (by decide) ?_
  refine lv_goto (tgt := 35) hx hb dX6_given_10 (by decide) ?_
  exact W.iret hx hb hr (fun t ht hW => ⟨⟨0, s.heap, rfl, ⟨rfl, by rw [gv, if_pos c1]⟩, ht⟩, hS.F ht⟩) hS.2.2 dX6_given_35

set_option maxHeartbeats 600000 in
set_option maxRecDepth 100000 in
theorem c_X6_givenByAll (l : Launch) (D : va_G) (G : Nat → ClassId) (μ : Nat → Nat) (R S N E P B L1 L2 L3 : Nat → Int32) (sm kp th la ln sp od : Int32) (hs : Int64) (f : Int32) (H : Heap) (hμ : inj 10 μ) (hM : MO D G μ R S N E P B L1 L2 L3 sm kp th la ln sp od hs H) (hwz : wz R) : Met l yX6_givenByAll wsX6_givenByAll ({ frames := 2, cells := 0, slots := 0, locals := 44 } : Room) (va_Pc [.ref (μ 0), .int f] (CX D G H)) (QI nA (fun r h => H = h ∧ tot R f = r)) 0 0 (nA) := by
  refine Met.ofW (cc := cX6_givenByAll) (maxL := 2) (ret := (some .int)) (by decide) rfl ?_
  intro p e s m args below meth c s₁ B0 hml hv
  obtain ⟨rfl, rfl, hK, hN⟩ := hv
  have hx := B0.exec
  have hb := B0.bytes
  have hr := B0.returns
  have hts := atoms_spec (ws := wsX6_givenByAll) B0.pre
  have hown : s.vm.findClass RX6 = some m.cls := findClass_of_methodNamed B0.named
  have hlocks := B0.notSynchronized
  have hF : CallFix p m c cX6_givenByAll 2 s ([.ref (μ 0), .int f] : List Value).toArray wsX6_givenByAll RX6 := ⟨hx, hb, hml, hown, hts⟩
  have hS : va_S (nA) s.heap s.heap [] := va_S.rf
  have hl := lv_entry ([.ref (μ 0), .int f]) (n := 2) (Nat.le_of_ble_eq_true rfl)
  rw [lg_entry_eq]
  generalize (lg_sl ([.ref (μ 0), .int f]) ++ List.replicate (2 - (lg_sl ([.ref (μ 0), .int f])).length) Slot.unset).toArray = ls at hl ⊢
  have hl : lv_has ls 2 [(0, .ref (μ 0)), (1, .int f)] := hl
  refine lv_aload_n hx hb dX6_givenByAll_0 rfl (lv_at hl 0 rfl) ?_
  refine lv_iconst (v := 0) hx hb dX6_givenByAll_1 (by decide) ?_
  refine lv_iload_n hx hb dX6_givenByAll_2 rfl (lv_at hl 1 rfl) ?_
  refine dp_Vi hF hK hN (c_X6_given l D G μ R S N E P B L1 L2 L3 sm kp th la ln sp od hs 0 f _ hμ hM hwz (by decide)) (cwV 2 hts gX6_givenByAll_X6_given rfl rfl rfl (by decide +kernel) ⟨Nat.le_of_ble_eq_true rfl, Nat.le_of_ble_eq_true rfl⟩) (dp_recv hK hM.1 rfl) hS nA_i [] rfl rfl hl.1 (Nat.le_of_ble_eq_true rfl) dX6_givenByAll_3 ⟨Nat.le_of_ble_eq_true rfl, Nat.le_of_ble_eq_true rfl⟩ (fun rH1 H1 locs hp hzH1 hkH1 hS => ?_)
  obtain ⟨rfl, rfl⟩ := hp
  refine lv_aload_n hx hb dX6_givenByAll_6 rfl (lv_at hl 0 rfl) ?_
  refine lv_iconst (v := 1) hx hb dX6_givenByAll_7 (by decide) ?_
  refine lv_iload_n hx hb dX6_givenByAll_8 rfl (lv_at hl 1 rfl) ?_
  refine dp_Vi hF hK hN (c_X6_given l D G μ R S N E P B L1 L2 L3 sm kp th la ln sp od hs 1 f _ hμ hM hwz (by decide)) (cwV 2 hts gX6_givenByAll_X6_given rfl rfl rfl (by decide +kernel) ⟨Nat.le_of_ble_eq_true rfl, Nat.le_of_ble_eq_true rfl⟩) (dp_recv hK hM.1 rfl) hS nA_i [.int (gv R 0 f)] rfl rfl hl.1 (Nat.le_of_ble_eq_true rfl) dX6_givenByAll_9 ⟨Nat.le_of_ble_eq_true rfl, Nat.le_of_ble_eq_true rfl⟩ (fun rH2 H2 locs hp hzH2 hkH2 hS => ?_)
  obtain ⟨rfl, rfl⟩ := hp
  refine lv_iadd hx hb dX6_givenByAll_12 ?_
  refine lv_aload_n hx hb dX6_givenByAll_13 rfl (lv_at hl 0 rfl) ?_
  refine lv_iconst (v := 2) hx hb dX6_givenByAll_14 (by decide) ?_
  refine lv_iload_n hx hb dX6_givenByAll_15 rfl (lv_at hl 1 rfl) ?_
  refine dp_Vi hF hK hN (c_X6_given l D G μ R S N E P B L1 L2 L3 sm kp th la ln sp od hs 2 f _ hμ hM hwz (by decide)) (cwV 2 hts gX6_givenByAll_X6_given rfl rfl rfl (by decide +kernel) ⟨Nat.le_of_ble_eq_true rfl, Nat.le_of_ble_eq_true rfl⟩) (dp_recv hK hM.1 rfl) hS nA_i [.int ((gv R 0 f) + (gv R 1 f))] rfl rfl hl.1 (Nat.le_of_ble_eq_true rfl) dX6_givenByAll_16 ⟨Nat.le_of_ble_eq_true rfl, Nat.le_of_ble_eq_true rfl⟩ (fun rH3 H3 locs hp hzH3 hkH3 hS => ?_)
  obtain ⟨rfl, rfl⟩ := hp
  refine lv_iadd hx hb dX6_givenByAll_19 ?_
  exact W.iret hx hb hr (fun t ht hW => ⟨⟨((gv R 0 f) + (gv R 1 f)) + (gv R 2 f), s.heap, rfl, ⟨rfl, tot3.symm⟩, ht⟩, hS.F ht⟩) hS.2.2 dX6_givenByAll_20

set_option maxHeartbeats 600000 in
set_option maxRecDepth 100000 in
theorem c_X6_frequency (l : Launch) (D : va_G) (G : Nat → ClassId) (μ : Nat → Nat) (R S N E P B L1 L2 L3 : Nat → Int32) (sm kp th la ln sp od : Int32) (hs : Int64)  (H : Heap) (hμ : inj 10 μ) (hM : MO D G μ R S N E P B L1 L2 L3 sm kp th la ln sp od hs H) (hwz : wz R) : Met l yX6_frequency wsX6_frequency ({ frames := 4, cells := 0, slots := 0, locals := 85 } : Room) (va_Pc [.ref (μ 0)] (CX D G H)) (QI nA (fun r h => H = h ∧ fq R = r)) 0 0 (nA) := by
  refine Met.ofW (cc := cX6_frequency) (maxL := 3) (ret := (some .int)) (by decide) rfl ?_
  intro p e s m args below meth c s₁ B0 hml hv
  obtain ⟨rfl, rfl, hK, hN⟩ := hv
  have hx := B0.exec
  have hb := B0.bytes
  have hr := B0.returns
  have hts := atoms_spec (ws := wsX6_frequency) B0.pre
  have hown : s.vm.findClass RX6 = some m.cls := findClass_of_methodNamed B0.named
  have hlocks := B0.notSynchronized
  have hF : CallFix p m c cX6_frequency 3 s ([.ref (μ 0)] : List Value).toArray wsX6_frequency RX6 := ⟨hx, hb, hml, hown, hts⟩
  have hS : va_S (nA) s.heap s.heap [] := va_S.rf
  have hl := lv_entry ([.ref (μ 0)]) (n := 3) (Nat.le_of_ble_eq_true rfl)
  rw [lg_entry_eq]
  generalize (lg_sl ([.ref (μ 0)]) ++ List.replicate (3 - (lg_sl ([.ref (μ 0)])).length) Slot.unset).toArray = ls at hl ⊢
  have hl : lv_has ls 3 [(0, .ref (μ 0))] := hl
  refine lv_aload_n hx hb dX6_frequency_0 rfl (lv_at hl 0 rfl) ?_
  refine dp_Vi hF hK hN (c_X6_isAlive l D G μ R S N E P B L1 L2 L3 sm kp th la ln sp od hs  _ hμ hM hwz.1) (cwV 0 hts gX6_frequency_X6_isAlive rfl rfl rfl (by decide +kernel) ⟨Nat.le_of_ble_eq_true rfl, Nat.le_of_ble_eq_true rfl⟩) (dp_recv hK hM.1 rfl) hS nA_i [] rfl rfl hl.1 (Nat.le_of_ble_eq_true rfl) dX6_frequency_1 ⟨Nat.le_of_ble_eq_true rfl, Nat.le_of_ble_eq_true rfl⟩ (fun rH1 H1 locs hp hzH1 hkH1 hS => ?_)
  obtain ⟨rfl, rfl⟩ := hp
  refine lv_if_ne (tgt := 9) hx hb dX6_frequency_4 (by decide) (fun c1 => ?_) (fun c1 => ?_)
  · refine lv_sipush (v := 5300) hx hb dX6_frequency_9 (by decide) ?_
    refine lv_istore_n (lv' := [(1, .int 5300), (0, .ref (μ 0))]) hx hb dX6_frequency_12 rfl hl (by decide) rfl (fun ls hl => ?_)
    refine lv_aload_n hx hb dX6_frequency_13 rfl (lv_at hl 1 rfl) ?_
    refine dp_Vi hF hK hN (c_X6_load l D G μ R S N E P B L1 L2 L3 sm kp th la ln sp od hs  _ hμ hM hwz) (cwV 0 hts gX6_frequency_X6_load rfl rfl rfl (by decide +kernel) ⟨Nat.le_of_ble_eq_true rfl, Nat.le_of_ble_eq_true rfl⟩) (dp_recv hK hM.1 rfl) hS nA_i [] rfl rfl hl.1 (Nat.le_of_ble_eq_true rfl) dX6_frequency_14 ⟨Nat.le_of_ble_eq_true rfl, Nat.le_of_ble_eq_true rfl⟩ (fun rH2 H2 locs hp hzH2 hkH2 hS => ?_)
    obtain ⟨rfl, rfl⟩ := hp
    refine lv_istore_n (lv' := [(2, .int (ld R)), (1, .int 5300), (0, .ref (μ 0))]) hx hb dX6_frequency_17 rfl hl (by decide) rfl (fun ls hl => ?_)
    have loop18 : ∀ (m9 : Nat) (k : Nat) (_ : k = m9) (_ : k ≤ 600) (_ : fsb (fok R) 600 = fsb (fok R) k) (locs : List Loc) (_ : va_S (nA) s.heap s.heap locs) (ls : Array Slot) (_ : lv_has ls 3 [(0, .ref (μ 0)), (1, .int (nI (4700 + k))), (2, .int (ld R))]), W p l e (headSpec wsX6_frequency ({ frames := 4, cells := 0, slots := 0, locals := 85 } : Room)).room s m ([.ref (μ 0)] : List Value).toArray below meth c s.heap locs 0 0 (MQ below (QI nA (fun r h => s.heap = h ∧ fq R = r)) ([.ref (μ 0)] : List Value).toArray s 0 0 (nA)) (F0 m 18 ls []) := by
      intro m9
      induction m9 with
      | zero =>
        intro k hk hk6 hf locs hS ls hl
        obtain rfl : k = 0 := hk
        refine lv_iload_n hx hb dX6_frequency_18 rfl (lv_at hl 1 rfl) ?_
        refine lv_sipush (v := 4700) hx hb dX6_frequency_19 (by decide) ?_
        refine lv_icmp_le (tgt := 40) hx hb dX6_frequency_22 (by decide) (fun c2 => ?_) (fun c2 => absurd (nI_le (a := 4700 + 0) (b := 4700) (by omega) (by omega)) c2)
        refine lv_iload_n hx hb dX6_frequency_40 rfl (lv_at hl 1 rfl) ?_
        exact W.iret hx hb hr (fun t ht hW => ⟨⟨nI (4700 + 0), s.heap, rfl, ⟨rfl, by rw [fq, if_neg c1, hf, fsb]⟩, ht⟩, hS.F ht⟩) hS.2.2 dX6_frequency_41
      | succ m9 ih18 =>
        intro k hk hk6 hf locs hS ls hl
        obtain rfl : k = m9 + 1 := hk
        refine lv_iload_n hx hb dX6_frequency_18 rfl (lv_at hl 1 rfl) ?_
        refine lv_sipush (v := 4700) hx hb dX6_frequency_19 (by decide) ?_
        refine lv_icmp_le (tgt := 40) hx hb dX6_frequency_22 (by decide) (fun c3 => absurd c3 (nI_ge (a := 4700) (b := 4700 + (m9 + 1)) (by omega) (by omega))) (fun c3 => ?_)
        refine lv_aload_n hx hb dX6_frequency_25 rfl (lv_at hl 0 rfl) ?_
        refine lv_iload_n hx hb dX6_frequency_26 rfl (lv_at hl 1 rfl) ?_
        refine dp_Vi hF hK hN (c_X6_givenByAll l D G μ R S N E P B L1 L2 L3 sm kp th la ln sp od hs (nI (4700 + (m9 + 1))) _ hμ hM hwz) (cwV 1 hts gX6_frequency_X6_givenByAll rfl rfl rfl (by decide +kernel) ⟨Nat.le_of_ble_eq_true rfl, Nat.le_of_ble_eq_true rfl⟩) (dp_recv hK hM.1 rfl) hS nA_i [] rfl rfl hl.1 (Nat.le_of_ble_eq_true rfl) dX6_frequency_27 ⟨Nat.le_of_ble_eq_true rfl, Nat.le_of_ble_eq_true rfl⟩ (fun rH3 H3 locs hp hzH3 hkH3 hS => ?_)
        obtain ⟨rfl, rfl⟩ := hp
        refine lv_iload_n hx hb dX6_frequency_30 rfl (lv_at hl 2 rfl) ?_
        refine lv_icmp_ge (tgt := 40) hx hb dX6_frequency_31 (by decide) (fun c4 => ?_) (fun c4 => ?_)
        · refine lv_iload_n hx hb dX6_frequency_40 rfl (lv_at hl 1 rfl) ?_
          exact W.iret hx hb hr (fun t ht hW => ⟨⟨nI (4700 + (m9 + 1)), s.heap, rfl, ⟨rfl, by rw [fq, if_neg c1, hf, fsb, if_pos (by unfold fok; simpa using c4)]⟩, ht⟩, hS.F ht⟩) hS.2.2 dX6_frequency_41
        refine lv_iinc (v := nI (4700 + m9)) (lv' := [(1, .int (nI (4700 + m9))), (0, .ref (μ 0)), (2, .int (ld R))]) hx hb dX6_frequency_34 hl (k := 1) rfl (nI_dec (4700 + m9)) (by decide) rfl (fun ls hl => ?_)
        refine lv_goto (tgt := 18) hx hb dX6_frequency_37 (by decide) ?_
        exact ih18 m9 rfl (by omega) (hf.trans (by rw [fsb, if_neg (by unfold fok; simpa using c4)])) _ hS _ (lv_sub hl [1, 0, 2] rfl)
    exact loop18 600 600 rfl (Nat.le_refl _) rfl _ hS _ (lv_sub hl [2, 1, 0] rfl)
  refine lv_iconst (v := 0) hx hb dX6_frequency_7 (by decide) ?_
  exact W.iret hx hb hr (fun t ht hW => ⟨⟨0, s.heap, rfl, ⟨rfl, by rw [fq, if_pos c1]⟩, ht⟩, hS.F ht⟩) hS.2.2 dX6_frequency_8
