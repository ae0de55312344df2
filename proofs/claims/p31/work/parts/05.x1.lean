set_option maxHeartbeats 600000 in
set_option maxRecDepth 100000 in
theorem c_J9_floorMod_7cf53 (l : Launch) (D : va_G) (G : Nat → ClassId) (x y : Int32) (H : Heap) (hy : ¬ y = 0) : Met l yJ9_floorMod_7cf53 wsJ9_floorMod_7cf53 ({ frames := 0, cells := 0, slots := 0, locals := 0 } : Room) (va_Pc [.int x, .int y] (CX D G H)) (QI nA (fun r h => H = h ∧ fmd x y = r)) 0 0 (nA) := by
  refine va_MetF (cc := cJ9_floorMod_7cf53) (maxL := 3) (ret := (some .int)) (by decide +kernel) rfl ?_
  intro p e s m args below meth c s₁ B0 hml hv
  obtain ⟨rfl, rfl, hK, hN⟩ := hv
  have hx := B0.exec
  have hb := B0.bytes
  have hr := B0.returns
  have hts := atoms_spec (ws := wsJ9_floorMod_7cf53) B0.pre
  have hown : s.vm.findClass RJ9 = some m.cls := findClass_of_methodNamed B0.named
  have hlocks := B0.notSynchronized
  have hF : CallFix p m c cJ9_floorMod_7cf53 3 s ([.int x, .int y] : List Value).toArray wsJ9_floorMod_7cf53 RJ9 := ⟨hx, hb, hml, hown, hts⟩
  have hS : va_S (nA) s.heap s.heap [] := va_S.rf
  have hl := lv_entry ([.int x, .int y]) (n := 3) (Nat.le_of_ble_eq_true rfl)
  rw [lg_entry_eq]
  generalize (lg_sl ([.int x, .int y]) ++ List.replicate (3 - (lg_sl ([.int x, .int y])).length) Slot.unset).toArray = ls at hl ⊢
  have hl : lv_has ls 3 [(0, .int x), (1, .int y)] := hl
  refine lv_iload_n hx hb dJ9_floorMod_7cf53_0 rfl (lv_at hl 0 rfl) ?_
  refine lv_iload_n hx hb dJ9_floorMod_7cf53_1 rfl (lv_at hl 1 rfl) ?_
  refine lv_irem hx hb dJ9_floorMod_7cf53_2 hy ?_
  refine lv_istore_n (lv' := [(2, .int (x - x / y * y)), (0, .int x), (1, .int y)]) hx hb dJ9_floorMod_7cf53_3 rfl hl (by decide) rfl (fun ls hl => ?_)
  refine lv_iload_n hx hb dJ9_floorMod_7cf53_4 rfl (lv_at hl 1 rfl) ?_
  refine lv_iload_n hx hb dJ9_floorMod_7cf53_5 rfl (lv_at hl 2 rfl) ?_
  refine lv_ixor hx hb dJ9_floorMod_7cf53_6 ?_
  refine lv_if_ge (tgt := 18) hx hb dJ9_floorMod_7cf53_7 (by decide) (fun c1 => ?_) (fun c1 => ?_)
  · refine lv_iload_n hx hb dJ9_floorMod_7cf53_18 rfl (lv_at hl 0 rfl) ?_
    exact W.iret hx hb hr (fun t ht hW => ⟨⟨x - x / y * y, s.heap, rfl, ⟨rfl, by simp [fmd, c1]⟩, ht⟩, hS.F ht⟩) hS.2.2 dJ9_floorMod_7cf53_19
  refine lv_iload_n hx hb dJ9_floorMod_7cf53_10 rfl (lv_at hl 0 rfl) ?_
  refine lv_if_eq (tgt := 18) hx hb dJ9_floorMod_7cf53_11 (by decide) (fun c2 => ?_) (fun c2 => ?_)
  · refine lv_iload_n hx hb dJ9_floorMod_7cf53_18 rfl (lv_at hl 0 rfl) ?_
    exact W.iret hx hb hr (fun t ht hW => ⟨⟨x - x / y * y, s.heap, rfl, ⟨rfl, by simp [fmd, c1, c2]⟩, ht⟩, hS.F ht⟩) hS.2.2 dJ9_floorMod_7cf53_19
  refine lv_iload_n hx hb dJ9_floorMod_7cf53_14 rfl (lv_at hl 0 rfl) ?_
  refine lv_iload_n hx hb dJ9_floorMod_7cf53_15 rfl (lv_at hl 2 rfl) ?_
  refine lv_iadd hx hb dJ9_floorMod_7cf53_16 ?_
  exact W.iret hx hb hr (fun t ht hW => ⟨⟨(x - x / y * y) + y, s.heap, rfl, ⟨rfl, by simp [fmd, c1, c2]⟩, ht⟩, hS.F ht⟩) hS.2.2 dJ9_floorMod_7cf53_17

set_option maxHeartbeats 600000 in
set_option maxRecDepth 100000 in
theorem c_X5_oneIf (l : Launch) (D : va_G) (G : Nat → ClassId) (x : Int32) (H : Heap)  : Met l yX5_oneIf wsX5_oneIf ({ frames := 0, cells := 0, slots := 0, locals := 0 } : Room) (va_Pc [.int x] (CX D G H)) (QI nA (fun r h => H = h ∧ (if x = 0 then 0 else 1) = r)) 0 0 (nA) := by
  refine Met.ofW (cc := cX5_oneIf) (maxL := 1) (ret := (some .int)) (by decide) rfl ?_
  intro p e s m args below meth c s₁ B0 hml hv
  obtain ⟨rfl, rfl, hK, hN⟩ := hv
  have hx := B0.exec
  have hb := B0.bytes
  have hr := B0.returns
  have hts := atoms_spec (ws := wsX5_oneIf) B0.pre
  have hown : s.vm.findClass RX5 = some m.cls := findClass_of_methodNamed B0.named
  have hlocks := B0.notSynchronized
  have hF : CallFix p m c cX5_oneIf 1 s ([.int x] : List Value).toArray wsX5_oneIf RX5 := ⟨hx, hb, hml, hown, hts⟩
  have hS : va_S (nA) s.heap s.heap [] := va_S.rf
  have hl := lv_entry ([.int x]) (n := 1) (Nat.le_of_ble_eq_true rfl)
  rw [lg_entry_eq]
  generalize (lg_sl ([.int x]) ++ List.replicate (1 - (lg_sl ([.int x])).length) Slot.unset).toArray = ls at hl ⊢
  have hl : lv_has ls 1 [(0, .int x)] := hl
  refine lv_iload_n hx hb dX5_oneIf_0 rfl (lv_at hl 0 rfl) ?_
  refine lv_if_eq (tgt := 8) hx hb dX5_oneIf_1 (by decide) (fun c1 => ?_) (fun c1 => ?_)
  · refine lv_iconst (v := 0) hx hb dX5_oneIf_8 (by decide) ?_
    exact W.iret hx hb hr (fun t ht hW => ⟨⟨0, s.heap, rfl, ⟨rfl, by simp [c1]⟩, ht⟩, hS.F ht⟩) hS.2.2 dX5_oneIf_9
  refine lv_iconst (v := 1) hx hb dX5_oneIf_4 (by decide) ?_
  refine lv_goto (tgt := 9) hx hb dX5_oneIf_5 (by decide) ?_
  exact W.iret hx hb hr (fun t ht hW => ⟨⟨1, s.heap, rfl, ⟨rfl, by simp [c1]⟩, ht⟩, hS.F ht⟩) hS.2.2 dX5_oneIf_9

set_option maxHeartbeats 600000 in
set_option maxRecDepth 100000 in
theorem c_X1_gives (l : Launch) (D : va_G) (G : Nat → ClassId) (a i : Nat) (R : Nat → Int32) (f : Int32) (H : Heap) (ha : va_at D vwCl (a, .inr (1, dF R i)) H) : Met l yX1_gives wsX1_gives ({ frames := 0, cells := 0, slots := 0, locals := 0 } : Room) (va_Pc [.ref a, .int f] (CX D G H)) (QI nA (fun r h => H = h ∧ gv R i f = r)) 0 0 (nA) := by
  refine Met.ofW (cc := cX1_gives) (maxL := 2) (ret := (some .int)) (by decide) rfl ?_
  intro p e s m args below meth c s₁ B0 hml hv
  obtain ⟨rfl, rfl, hK, hN⟩ := hv
  have hx := B0.exec
  have hb := B0.bytes
  have hr := B0.returns
  have hts := atoms_spec (ws := wsX1_gives) B0.pre
  have hown : s.vm.findClass RX1 = some m.cls := findClass_of_methodNamed B0.named
  have hlocks := B0.notSynchronized
  have hF : CallFix p m c cX1_gives 2 s ([.ref a, .int f] : List Value).toArray wsX1_gives RX1 := ⟨hx, hb, hml, hown, hts⟩
  have hS : va_S (nA) s.heap s.heap [] := va_S.rf
  have hl := lv_entry ([.ref a, .int f]) (n := 2) (Nat.le_of_ble_eq_true rfl)
  rw [lg_entry_eq]
  generalize (lg_sl ([.ref a, .int f]) ++ List.replicate (2 - (lg_sl ([.ref a, .int f])).length) Slot.unset).toArray = ls at hl ⊢
  have hl : lv_has ls 2 [(0, .ref a), (1, .int f)] := hl
  refine lv_aload_n hx hb dX1_gives_0 rfl (lv_at hl 0 rfl) ?_
  refine dp_get hx hb hts (dp_hin 5 rfl) hown hK ha rfl 4 (by decide) (hts (.fieldLink RX1 23 "DroopBoard$Diesel" "closed" "Z") (List.mem_of_getElem? (i := 1) rfl)) rfl dX1_gives_1 ?_
  refine lv_if_eq (tgt := 14) hx hb dX1_gives_4 (by decide) (fun c1 => ?_) (fun c1 => ?_)
  · refine lv_iconst (v := 0) hx hb dX1_gives_14 (by decide) ?_
    exact W.iret hx hb hr (fun t ht hW => ⟨⟨0, s.heap, rfl, ⟨rfl, by simp [gv, c1]⟩, ht⟩, hS.F ht⟩) hS.2.2 dX1_gives_15
  refine lv_aload_n hx hb dX1_gives_7 rfl (lv_at hl 0 rfl) ?_
  refine dp_get hx hb hts (dp_hin 5 rfl) hown hK ha rfl 1 (by decide) (hts (.fieldLink RX1 7 "DroopBoard$Diesel" "droop" "I") (List.mem_of_getElem? (i := 2) rfl)) rfl dX1_gives_8 ?_
  refine lv_if_ne (tgt := 16) hx hb dX1_gives_11 (by decide) (fun c2 => ?_) (fun c2 => ?_)
  · refine lv_aload_n hx hb dX1_gives_16 rfl (lv_at hl 0 rfl) ?_
    refine dp_get hx hb hts (dp_hin 5 rfl) hown hK ha rfl 2 (by decide) (hts (.fieldLink RX1 13 "DroopBoard$Diesel" "speed" "I") (List.mem_of_getElem? (i := 3) rfl)) rfl dX1_gives_17 ?_
    refine lv_iload_n hx hb dX1_gives_20 rfl (lv_at hl 1 rfl) ?_
    refine lv_isub hx hb dX1_gives_21 ?_
    refine lv_aload_n hx hb dX1_gives_22 rfl (lv_at hl 0 rfl) ?_
    refine dp_get hx hb hts (dp_hin 5 rfl) hown hK ha rfl 0 (by decide) (hts (.fieldLink RX1 16 "DroopBoard$Diesel" "rating" "I") (List.mem_of_getElem? (i := 4) rfl)) rfl dX1_gives_23 ?_
    refine lv_imul hx hb dX1_gives_26 ?_
    refine lv_aload_n hx hb dX1_gives_27 rfl (lv_at hl 0 rfl) ?_
    refine dp_get hx hb hts (dp_hin 5 rfl) hown hK ha rfl 1 (by decide) (hts (.fieldLink RX1 7 "DroopBoard$Diesel" "droop" "I") (List.mem_of_getElem? (i := 2) rfl)) rfl dX1_gives_28 ?_
    refine lv_idiv hx hb dX1_gives_31 c2 ?_
    exact W.iret hx hb hr (fun t ht hW => ⟨⟨(((R (10 + 10 * i)) - f) * (R (8 + 10 * i))) / (R (9 + 10 * i)), s.heap, rfl, ⟨rfl, by simp [gv, c1, c2]⟩, ht⟩, hS.F ht⟩) hS.2.2 dX1_gives_32
  refine lv_iconst (v := 0) hx hb dX1_gives_14 (by decide) ?_
  exact W.iret hx hb hr (fun t ht hW => ⟨⟨0, s.heap, rfl, ⟨rfl, by simp [gv, c1, c2]⟩, ht⟩, hS.F ht⟩) hS.2.2 dX1_gives_15

set_option maxHeartbeats 600000 in
set_option maxRecDepth 100000 in
theorem c_X1_lamps (l : Launch) (D : va_G) (G : Nat → ClassId) (a i : Nat) (R : Nat → Int32) (H : Heap) (ha : va_at D vwCl (a, .inr (1, dF R i)) H) : Met l yX1_lamps wsX1_lamps ({ frames := 1, cells := 0, slots := 0, locals := 21 } : Room) (va_Pc [.ref a] (CX D G H)) (QI nA (fun r h => H = h ∧ lam (R (13 + 10 * i)) = r)) 0 0 (nA) := by
  refine Met.ofW (cc := cX1_lamps) (maxL := 1) (ret := (some .int)) (by decide) rfl ?_
  intro p e s m args below meth c s₁ B0 hml hv
  obtain ⟨rfl, rfl, hK, hN⟩ := hv
  have hx := B0.exec
  have hb := B0.bytes
  have hr := B0.returns
  have hts := atoms_spec (ws := wsX1_lamps) B0.pre
  have hown : s.vm.findClass RX1 = some m.cls := findClass_of_methodNamed B0.named
  have hlocks := B0.notSynchronized
  have hF : CallFix p m c cX1_lamps 1 s ([.ref a] : List Value).toArray wsX1_lamps RX1 := ⟨hx, hb, hml, hown, hts⟩
  have hS : va_S (nA) s.heap s.heap [] := va_S.rf
  have hl := lv_entry ([.ref a]) (n := 1) (Nat.le_of_ble_eq_true rfl)
  rw [lg_entry_eq]
  generalize (lg_sl ([.ref a]) ++ List.replicate (1 - (lg_sl ([.ref a])).length) Slot.unset).toArray = ls at hl ⊢
  have hl : lv_has ls 1 [(0, .ref a)] := hl
  refine lv_aload_n hx hb dX1_lamps_0 rfl (lv_at hl 0 rfl) ?_
  refine dp_get hx hb hts (dp_hin 6 rfl) hown hK ha rfl 5 (by decide) (hts (.fieldLink RX1 26 "DroopBoard$Diesel" "phase" "I") (List.mem_of_getElem? (i := 1) rfl)) rfl dX1_lamps_1 ?_
  refine lv_sipush (v := 1000) hx hb dX1_lamps_4 (by decide) ?_
  refine lv_aload_n hx hb dX1_lamps_7 rfl (lv_at hl 0 rfl) ?_
  refine dp_get hx hb hts (dp_hin 6 rfl) hown hK ha rfl 5 (by decide) (hts (.fieldLink RX1 26 "DroopBoard$Diesel" "phase" "I") (List.mem_of_getElem? (i := 1) rfl)) rfl dX1_lamps_8 ?_
  refine lv_isub hx hb dX1_lamps_11 ?_
  refine dp_min (rest := []) hx hb (hml.trans hl.1.symm) hown (hts (.methodLink RX1 44 Lib.Math.min.name) (List.mem_of_getElem? (i := 2) rfl)) (hts (.static Lib.Math.min.name) (List.mem_of_getElem? (i := 3) rfl)) (hts (.initialized "java/lang/Math") (List.mem_of_getElem? (i := 4) rfl)) (hts (.code Lib.Math.min.name Lib.Math.min.code 2 (some .int)) (List.mem_of_getElem? (i := 5) rfl)) (Nat.le_of_ble_eq_true rfl) (Nat.le_of_ble_eq_true rfl) (Nat.le_of_ble_eq_true rfl) (Nat.le_of_ble_eq_true rfl) dX1_lamps_12 ?_
  exact W.iret hx hb hr (fun t ht hW => ⟨⟨mn (R (13 + 10 * i)) (1000 - (R (13 + 10 * i))), s.heap, rfl, ⟨rfl, rfl⟩, ht⟩, hS.F ht⟩) hS.2.2 dX1_lamps_15

set_option maxHeartbeats 600000 in
set_option maxRecDepth 100000 in
theorem c_X1_canStart (l : Launch) (D : va_G) (G : Nat → ClassId) (a i : Nat) (R : Nat → Int32) (H : Heap) (ha : va_at D vwCl (a, .inr (1, dF R i)) H) : Met l yX1_canStart wsX1_canStart ({ frames := 0, cells := 0, slots := 0, locals := 0 } : Room) (va_Pc [.ref a] (CX D G H)) (QI nA (fun r h => H = h ∧ (if R (11 + 10 * i) = 0 then 1 else 0) = r)) 0 0 (nA) := by
  refine Met.ofW (cc := cX1_canStart) (maxL := 1) (ret := (some .boolean)) (by decide) rfl ?_
  intro p e s m args below meth c s₁ B0 hml hv
  obtain ⟨rfl, rfl, hK, hN⟩ := hv
  have hx := B0.exec
  have hb := B0.bytes
  have hr := B0.returns
  have hts := atoms_spec (ws := wsX1_canStart) B0.pre
  have hown : s.vm.findClass RX1 = some m.cls := findClass_of_methodNamed B0.named
  have hlocks := B0.notSynchronized
  have hF : CallFix p m c cX1_canStart 1 s ([.ref a] : List Value).toArray wsX1_canStart RX1 := ⟨hx, hb, hml, hown, hts⟩
  have hS : va_S (nA) s.heap s.heap [] := va_S.rf
  have hl := lv_entry ([.ref a]) (n := 1) (Nat.le_of_ble_eq_true rfl)
  rw [lg_entry_eq]
  generalize (lg_sl ([.ref a]) ++ List.replicate (1 - (lg_sl ([.ref a])).length) Slot.unset).toArray = ls at hl ⊢
  have hl : lv_has ls 1 [(0, .ref a)] := hl
  refine lv_aload_n hx hb dX1_canStart_0 rfl (lv_at hl 0 rfl) ?_
  refine dp_get hx hb hts (dp_hin 2 rfl) hown hK ha rfl 3 (by decide) (hts (.fieldLink RX1 19 "DroopBoard$Diesel" "runs" "Z") (List.mem_of_getElem? (i := 1) rfl)) rfl dX1_canStart_1 ?_
  refine lv_if_ne (tgt := 11) hx hb dX1_canStart_4 (by decide) (fun c1 => ?_) (fun c1 => ?_)
  · refine lv_iconst (v := 0) hx hb dX1_canStart_11 (by decide) ?_
    exact W.zret (ty := .boolean) hx hb hr rfl (fun t ht hW => ⟨⟨0, s.heap, rfl, ⟨rfl, by simp [c1]⟩, ht⟩, hS.F ht⟩) hS.2.2 dX1_canStart_12
  refine lv_iconst (v := 1) hx hb dX1_canStart_7 (by decide) ?_
  refine lv_goto (tgt := 12) hx hb dX1_canStart_8 (by decide) ?_
  exact W.zret (ty := .boolean) hx hb hr rfl (fun t ht hW => ⟨⟨1, s.heap, rfl, ⟨rfl, by simp [c1]⟩, ht⟩, hS.F ht⟩) hS.2.2 dX1_canStart_12

set_option maxHeartbeats 600000 in
set_option maxRecDepth 100000 in
theorem c_X1_canStop (l : Launch) (D : va_G) (G : Nat → ClassId) (a i : Nat) (R : Nat → Int32) (H : Heap) (ha : va_at D vwCl (a, .inr (1, dF R i)) H) : Met l yX1_canStop wsX1_canStop ({ frames := 0, cells := 0, slots := 0, locals := 0 } : Room) (va_Pc [.ref a] (CX D G H)) (QI nA (fun r h => H = h ∧ (if R (11 + 10 * i) = 0 then 0 else if R (12 + 10 * i) = 0 then 1 else 0) = r)) 0 0 (nA) := by
  refine Met.ofW (cc := cX1_canStop) (maxL := 1) (ret := (some .boolean)) (by decide) rfl ?_
  intro p e s m args below meth c s₁ B0 hml hv
  obtain ⟨rfl, rfl, hK, hN⟩ := hv
  have hx := B0.exec
  have hb := B0.bytes
  have hr := B0.returns
  have hts := atoms_spec (ws := wsX1_canStop) B0.pre
  have hown : s.vm.findClass RX1 = some m.cls := findClass_of_methodNamed B0.named
  have hlocks := B0.notSynchronized
  have hF : CallFix p m c cX1_canStop 1 s ([.ref a] : List Value).toArray wsX1_canStop RX1 := ⟨hx, hb, hml, hown, hts⟩
  have hS : va_S (nA) s.heap s.heap [] := va_S.rf
  have hl := lv_entry ([.ref a]) (n := 1) (Nat.le_of_ble_eq_true rfl)
  rw [lg_entry_eq]
  generalize (lg_sl ([.ref a]) ++ List.replicate (1 - (lg_sl ([.ref a])).length) Slot.unset).toArray = ls at hl ⊢
  have hl : lv_has ls 1 [(0, .ref a)] := hl
  refine lv_aload_n hx hb dX1_canStop_0 rfl (lv_at hl 0 rfl) ?_
  refine dp_get hx hb hts (dp_hin 3 rfl) hown hK ha rfl 3 (by decide) (hts (.fieldLink RX1 19 "DroopBoard$Diesel" "runs" "Z") (List.mem_of_getElem? (i := 1) rfl)) rfl dX1_canStop_1 ?_
  refine lv_if_eq (tgt := 18) hx hb dX1_canStop_4 (by decide) (fun c1 => ?_) (fun c1 => ?_)
  · refine lv_iconst (v := 0) hx hb dX1_canStop_18 (by decide) ?_
    exact W.zret (ty := .boolean) hx hb hr rfl (fun t ht hW => ⟨⟨0, s.heap, rfl, ⟨rfl, by simp [c1]⟩, ht⟩, hS.F ht⟩) hS.2.2 dX1_canStop_19
  refine lv_aload_n hx hb dX1_canStop_7 rfl (lv_at hl 0 rfl) ?_
  refine dp_get hx hb hts (dp_hin 3 rfl) hown hK ha rfl 4 (by decide) (hts (.fieldLink RX1 23 "DroopBoard$Diesel" "closed" "Z") (List.mem_of_getElem? (i := 2) rfl)) rfl dX1_canStop_8 ?_
  refine lv_if_ne (tgt := 18) hx hb dX1_canStop_11 (by decide) (fun c2 => ?_) (fun c2 => ?_)
  · refine lv_iconst (v := 0) hx hb dX1_canStop_18 (by decide) ?_
    exact W.zret (ty := .boolean) hx hb hr rfl (fun t ht hW => ⟨⟨0, s.heap, rfl, ⟨rfl, by simp [c1, c2]⟩, ht⟩, hS.F ht⟩) hS.2.2 dX1_canStop_19
  refine lv_iconst (v := 1) hx hb dX1_canStop_14 (by decide) ?_
  refine lv_goto (tgt := 19) hx hb dX1_canStop_15 (by decide) ?_
  exact W.zret (ty := .boolean) hx hb hr rfl (fun t ht hW => ⟨⟨1, s.heap, rfl, ⟨rfl, by simp [c1, c2]⟩, ht⟩, hS.F ht⟩) hS.2.2 dX1_canStop_19

set_option maxHeartbeats 600000 in
set_option maxRecDepth 100000 in
theorem c_X1_beginAnew (l : Launch) (D : va_G) (G : Nat → ClassId) (a i : Nat) (R : Nat → Int32) (H : Heap) (ha : va_at D vwCl (a, .inr (1, dF R i)) H) : Met l yX1_beginAnew wsX1_beginAnew ({ frames := 0, cells := 0, slots := 0, locals := 0 } : Room) (va_Pc [.ref a] (CX D G H)) (QV (fun q => q = a) (fun h => h.size = H.size ∧ va_at D vwCl (a, .inr (1, dF (rst R i) i)) h)) 0 0 (fun q => q = a) := by
  refine Met.ofW (cc := cX1_beginAnew) (maxL := 1) (ret := none) (by decide) rfl ?_
  intro p e s m args below meth c s₁ B0 hml hv
  obtain ⟨rfl, rfl, hK, hN⟩ := hv
  have hx := B0.exec
  have hb := B0.bytes
  have hr := B0.returns
  have hts := atoms_spec (ws := wsX1_beginAnew) B0.pre
  have hown : s.vm.findClass RX1 = some m.cls := findClass_of_methodNamed B0.named
  have hlocks := B0.notSynchronized
  have hF : CallFix p m c cX1_beginAnew 1 s ([.ref a] : List Value).toArray wsX1_beginAnew RX1 := ⟨hx, hb, hml, hown, hts⟩
  have hS : va_S (fun q => q = a) s.heap s.heap [] := va_S.rf
  have hl := lv_entry ([.ref a]) (n := 1) (Nat.le_of_ble_eq_true rfl)
  rw [lg_entry_eq]
  generalize (lg_sl ([.ref a]) ++ List.replicate (1 - (lg_sl ([.ref a])).length) Slot.unset).toArray = ls at hl ⊢
  have hl : lv_has ls 1 [(0, .ref a)] := hl
  refine lv_aload_n hx hb dX1_beginAnew_0 rfl (lv_at hl 0 rfl) ?_
  refine lv_iconst (v := 0) hx hb dX1_beginAnew_1 (by decide) ?_
  refine dp_put (A := fun q => q = a) (v := .int 0) hx hb hts (dp_hin 4 rfl) tyX1 tyX1_ok nmX1 hown hK ha rfl hS rfl 5 (by decide) (hts (.fieldLink RX1 26 "DroopBoard$Diesel" "phase" "I") (List.mem_of_getElem? (i := 1) rfl)) rfl rfl rfl (Nat.le_of_ble_eq_true rfl) dX1_beginAnew_2 (fun H1 locs hH1 hzH1 hkH1 hS => ?_)
  refine lv_aload_n hx hb dX1_beginAnew_5 rfl (lv_at hl 0 rfl) ?_
  refine lv_iconst (v := 0) hx hb dX1_beginAnew_6 (by decide) ?_
  refine dp_put (A := fun q => q = a) (v := .int 0) hx hb hts (dp_hin 4 rfl) tyX1 tyX1_ok nmX1 hown hK hH1 rfl hS rfl 6 (by decide) (hts (.fieldLink RX1 29 "DroopBoard$Diesel" "overloaded" "I") (List.mem_of_getElem? (i := 2) rfl)) rfl rfl rfl (Nat.le_of_ble_eq_true rfl) dX1_beginAnew_7 (fun H2 locs hH2 hzH2 hkH2 hS => ?_)
  refine lv_aload_n hx hb dX1_beginAnew_10 rfl (lv_at hl 0 rfl) ?_
  refine lv_iconst (v := 0) hx hb dX1_beginAnew_11 (by decide) ?_
  refine dp_put (A := fun q => q = a) (v := .int 0) hx hb hts (dp_hin 4 rfl) tyX1 tyX1_ok nmX1 hown hK hH2 rfl hS rfl 7 (by decide) (hts (.fieldLink RX1 32 "DroopBoard$Diesel" "driven" "I") (List.mem_of_getElem? (i := 3) rfl)) rfl rfl rfl (Nat.le_of_ble_eq_true rfl) dX1_beginAnew_12 (fun H3 locs hH3 hzH3 hkH3 hS => ?_)
  exact W.vret hx hb hr (fun t ht hW => ⟨⟨H3, rfl, ⟨(hzH3.trans (hzH2.trans hzH1)), by rw [show dF (rst R i) i = [.int (R (8 + 10 * i)), .int (R (9 + 10 * i)), .int (R (10 + 10 * i)), .int (R (11 + 10 * i)), .int (R (12 + 10 * i)), .int 0, .int 0, .int 0, .int (R (16 + 10 * i)), .int (R (17 + 10 * i))] from by simp [dF, upd, rst]]; exact hH3⟩, ht⟩, hS.F ht⟩) hS.2.2 dX1_beginAnew_15

set_option maxHeartbeats 600000 in
set_option maxRecDepth 100000 in
theorem c_X1_start (l : Launch) (D : va_G) (G : Nat → ClassId) (a i : Nat) (R : Nat → Int32) (H : Heap) (ha : va_at D vwCl (a, .inr (1, dF R i)) H) : Met l yX1_start wsX1_start ({ frames := 1, cells := 0, slots := 0, locals := 20 } : Room) (va_Pc [.ref a] (CX D G H)) (QV (fun q => q = a) (fun h => h.size = H.size ∧ va_at D vwCl (a, .inr (1, dF (rst (upd R (11 + 10 * i) 1) i) i)) h)) 0 0 (fun q => q = a) := by
  refine Met.ofW (cc := cX1_start) (maxL := 1) (ret := none) (by decide) rfl ?_
  intro p e s m args below meth c s₁ B0 hml hv
  obtain ⟨rfl, rfl, hK, hN⟩ := hv
  have hx := B0.exec
  have hb := B0.bytes
  have hr := B0.returns
  have hts := atoms_spec (ws := wsX1_start) B0.pre
  have hown : s.vm.findClass RX1 = some m.cls := findClass_of_methodNamed B0.named
  have hlocks := B0.notSynchronized
  have hF : CallFix p m c cX1_start 1 s ([.ref a] : List Value).toArray wsX1_start RX1 := ⟨hx, hb, hml, hown, hts⟩
  have hS : va_S (fun q => q = a) s.heap s.heap [] := va_S.rf
  have hl := lv_entry ([.ref a]) (n := 1) (Nat.le_of_ble_eq_true rfl)
  rw [lg_entry_eq]
  generalize (lg_sl ([.ref a]) ++ List.replicate (1 - (lg_sl ([.ref a])).length) Slot.unset).toArray = ls at hl ⊢
  have hl : lv_has ls 1 [(0, .ref a)] := hl
  refine lv_aload_n hx hb dX1_start_0 rfl (lv_at hl 0 rfl) ?_
  refine lv_iconst (v := 1) hx hb dX1_start_1 (by decide) ?_
  refine dp_put (A := fun q => q = a) (v := .int 1) hx hb hts (dp_hin 10 rfl) tyX1 tyX1_ok nmX1 hown hK ha rfl hS rfl 3 (by decide) (hts (.fieldLink RX1 19 "DroopBoard$Diesel" "runs" "Z") (List.mem_of_getElem? (i := 1) rfl)) rfl rfl rfl (Nat.le_of_ble_eq_true rfl) dX1_start_2 (fun H1 locs hH1 hzH1 hkH1 hS => ?_)
  refine lv_aload_n hx hb dX1_start_5 rfl (lv_at hl 0 rfl) ?_
  have hc9 : va_at D vwCl (a, .inr (1, dF (upd R (11 + 10 * i) 1) i)) H1 := by rw [show dF (upd R (11 + 10 * i) 1) i = [.int (R (8 + 10 * i)), .int (R (9 + 10 * i)), .int (R (10 + 10 * i)), .int 1, .int (R (12 + 10 * i)), .int (R (13 + 10 * i)), .int (R (14 + 10 * i)), .int (R (15 + 10 * i)), .int (R (16 + 10 * i)), .int (R (17 + 10 * i))] from by simp [dF, upd]]; exact hH1
  refine dp_Vv hF hK hN (c_X1_beginAnew l D G a i (upd R (11 + 10 * i) 1) _ hc9) (cwV 0 hts gX1_start_X1_beginAnew rfl rfl rfl (by decide +kernel) ⟨Nat.le_of_ble_eq_true rfl, Nat.le_of_ble_eq_true rfl⟩) (dp_recv hK hc9 rfl) hS (fun _ h => h) [] rfl rfl hl.1 (Nat.le_of_ble_eq_true rfl) dX1_start_6 ⟨Nat.le_of_ble_eq_true rfl, Nat.le_of_ble_eq_true rfl⟩ (fun H2 locs hp hzH2 hkH2 hS => ?_)
  obtain ⟨hz9, hc9⟩ := hp
  exact W.vret hx hb hr (fun t ht hW => ⟨⟨H2, rfl, ⟨(hz9.trans hzH1), hc9⟩, ht⟩, hS.F ht⟩) hS.2.2 dX1_start_9

set_option maxHeartbeats 600000 in
set_option maxRecDepth 100000 in
theorem c_X1_stop (l : Launch) (D : va_G) (G : Nat → ClassId) (a i : Nat) (R : Nat → Int32) (H : Heap) (ha : va_at D vwCl (a, .inr (1, dF R i)) H) : Met l yX1_stop wsX1_stop ({ frames := 1, cells := 0, slots := 0, locals := 20 } : Room) (va_Pc [.ref a] (CX D G H)) (QV (fun q => q = a) (fun h => h.size = H.size ∧ va_at D vwCl (a, .inr (1, dF (rst (upd R (11 + 10 * i) 0) i) i)) h)) 0 0 (fun q => q = a) := by
  refine Met.ofW (cc := cX1_stop) (maxL := 1) (ret := none) (by decide) rfl ?_
  intro p e s m args below meth c s₁ B0 hml hv
  obtain ⟨rfl, rfl, hK, hN⟩ := hv
  have hx := B0.exec
  have hb := B0.bytes
  have hr := B0.returns
  have hts := atoms_spec (ws := wsX1_stop) B0.pre
  have hown : s.vm.findClass RX1 = some m.cls := findClass_of_methodNamed B0.named
  have hlocks := B0.notSynchronized
  have hF : CallFix p m c cX1_stop 1 s ([.ref a] : List Value).toArray wsX1_stop RX1 := ⟨hx, hb, hml, hown, hts⟩
  have hS : va_S (fun q => q = a) s.heap s.heap [] := va_S.rf
  have hl := lv_entry ([.ref a]) (n := 1) (Nat.le_of_ble_eq_true rfl)
  rw [lg_entry_eq]
  generalize (lg_sl ([.ref a]) ++ List.replicate (1 - (lg_sl ([.ref a])).length) Slot.unset).toArray = ls at hl ⊢
  have hl : lv_has ls 1 [(0, .ref a)] := hl
  refine lv_aload_n hx hb dX1_stop_0 rfl (lv_at hl 0 rfl) ?_
  refine lv_iconst (v := 0) hx hb dX1_stop_1 (by decide) ?_
  refine dp_put (A := fun q => q = a) (v := .int 0) hx hb hts (dp_hin 10 rfl) tyX1 tyX1_ok nmX1 hown hK ha rfl hS rfl 3 (by decide) (hts (.fieldLink RX1 19 "DroopBoard$Diesel" "runs" "Z") (List.mem_of_getElem? (i := 1) rfl)) rfl rfl rfl (Nat.le_of_ble_eq_true rfl) dX1_stop_2 (fun H1 locs hH1 hzH1 hkH1 hS => ?_)
  refine lv_aload_n hx hb dX1_stop_5 rfl (lv_at hl 0 rfl) ?_
  have hc9 : va_at D vwCl (a, .inr (1, dF (upd R (11 + 10 * i) 0) i)) H1 := by rw [show dF (upd R (11 + 10 * i) 0) i = [.int (R (8 + 10 * i)), .int (R (9 + 10 * i)), .int (R (10 + 10 * i)), .int 0, .int (R (12 + 10 * i)), .int (R (13 + 10 * i)), .int (R (14 + 10 * i)), .int (R (15 + 10 * i)), .int (R (16 + 10 * i)), .int (R (17 + 10 * i))] from by simp [dF, upd]]; exact hH1
  refine dp_Vv hF hK hN (c_X1_beginAnew l D G a i (upd R (11 + 10 * i) 0) _ hc9) (cwV 0 hts gX1_stop_X1_beginAnew rfl rfl rfl (by decide +kernel) ⟨Nat.le_of_ble_eq_true rfl, Nat.le_of_ble_eq_true rfl⟩) (dp_recv hK hc9 rfl) hS (fun _ h => h) [] rfl rfl hl.1 (Nat.le_of_ble_eq_true rfl) dX1_stop_6 ⟨Nat.le_of_ble_eq_true rfl, Nat.le_of_ble_eq_true rfl⟩ (fun H2 locs hp hzH2 hkH2 hS => ?_)
  obtain ⟨hz9, hc9⟩ := hp
  exact W.vret hx hb hr (fun t ht hW => ⟨⟨H2, rfl, ⟨(hz9.trans hzH1), hc9⟩, ht⟩, hS.F ht⟩) hS.2.2 dX1_stop_9

set_option maxHeartbeats 600000 in
set_option maxRecDepth 100000 in
theorem c_X1_closeBreaker (l : Launch) (D : va_G) (G : Nat → ClassId) (a i : Nat) (R : Nat → Int32) (H : Heap) (ha : va_at D vwCl (a, .inr (1, dF R i)) H) : Met l yX1_closeBreaker wsX1_closeBreaker ({ frames := 1, cells := 0, slots := 0, locals := 20 } : Room) (va_Pc [.ref a] (CX D G H)) (QV (fun q => q = a) (fun h => h.size = H.size ∧ va_at D vwCl (a, .inr (1, dF (rst (upd R (12 + 10 * i) 1) i) i)) h)) 0 0 (fun q => q = a) := by
  refine Met.ofW (cc := cX1_closeBreaker) (maxL := 1) (ret := none) (by decide) rfl ?_
  intro p e s m args below meth c s₁ B0 hml hv
  obtain ⟨rfl, rfl, hK, hN⟩ := hv
  have hx := B0.exec
  have hb := B0.bytes
  have hr := B0.returns
  have hts := atoms_spec (ws := wsX1_closeBreaker) B0.pre
  have hown : s.vm.findClass RX1 = some m.cls := findClass_of_methodNamed B0.named
  have hlocks := B0.notSynchronized
  have hF : CallFix p m c cX1_closeBreaker 1 s ([.ref a] : List Value).toArray wsX1_closeBreaker RX1 := ⟨hx, hb, hml, hown, hts⟩
  have hS : va_S (fun q => q = a) s.heap s.heap [] := va_S.rf
  have hl := lv_entry ([.ref a]) (n := 1) (Nat.le_of_ble_eq_true rfl)
  rw [lg_entry_eq]
  generalize (lg_sl ([.ref a]) ++ List.replicate (1 - (lg_sl ([.ref a])).length) Slot.unset).toArray = ls at hl ⊢
  have hl : lv_has ls 1 [(0, .ref a)] := hl
  refine lv_aload_n hx hb dX1_closeBreaker_0 rfl (lv_at hl 0 rfl) ?_
  refine lv_iconst (v := 1) hx hb dX1_closeBreaker_1 (by decide) ?_
  refine dp_put (A := fun q => q = a) (v := .int 1) hx hb hts (dp_hin 10 rfl) tyX1 tyX1_ok nmX1 hown hK ha rfl hS rfl 4 (by decide) (hts (.fieldLink RX1 23 "DroopBoard$Diesel" "closed" "Z") (List.mem_of_getElem? (i := 1) rfl)) rfl rfl rfl (Nat.le_of_ble_eq_true rfl) dX1_closeBreaker_2 (fun H1 locs hH1 hzH1 hkH1 hS => ?_)
  refine lv_aload_n hx hb dX1_closeBreaker_5 rfl (lv_at hl 0 rfl) ?_
  have hc9 : va_at D vwCl (a, .inr (1, dF (upd R (12 + 10 * i) 1) i)) H1 := by rw [show dF (upd R (12 + 10 * i) 1) i = [.int (R (8 + 10 * i)), .int (R (9 + 10 * i)), .int (R (10 + 10 * i)), .int (R (11 + 10 * i)), .int 1, .int (R (13 + 10 * i)), .int (R (14 + 10 * i)), .int (R (15 + 10 * i)), .int (R (16 + 10 * i)), .int (R (17 + 10 * i))] from by simp [dF, upd]]; exact hH1
  refine dp_Vv hF hK hN (c_X1_beginAnew l D G a i (upd R (12 + 10 * i) 1) _ hc9) (cwV 0 hts gX1_closeBreaker_X1_beginAnew rfl rfl rfl (by decide +kernel) ⟨Nat.le_of_ble_eq_true rfl, Nat.le_of_ble_eq_true rfl⟩) (dp_recv hK hc9 rfl) hS (fun _ h => h) [] rfl rfl hl.1 (Nat.le_of_ble_eq_true rfl) dX1_closeBreaker_6 ⟨Nat.le_of_ble_eq_true rfl, Nat.le_of_ble_eq_true rfl⟩ (fun H2 locs hp hzH2 hkH2 hS => ?_)
  obtain ⟨hz9, hc9⟩ := hp
  exact W.vret hx hb hr (fun t ht hW => ⟨⟨H2, rfl, ⟨(hz9.trans hzH1), hc9⟩, ht⟩, hS.F ht⟩) hS.2.2 dX1_closeBreaker_9

set_option maxHeartbeats 600000 in
set_option maxRecDepth 100000 in
theorem c_X1_openBreaker (l : Launch) (D : va_G) (G : Nat → ClassId) (a i : Nat) (R : Nat → Int32) (H : Heap) (ha : va_at D vwCl (a, .inr (1, dF R i)) H) : Met l yX1_openBreaker wsX1_openBreaker ({ frames := 1, cells := 0, slots := 0, locals := 20 } : Room) (va_Pc [.ref a] (CX D G H)) (QV (fun q => q = a) (fun h => h.size = H.size ∧ va_at D vwCl (a, .inr (1, dF (rst (upd R (12 + 10 * i) 0) i) i)) h)) 0 0 (fun q => q = a) := by
  refine Met.ofW (cc := cX1_openBreaker) (maxL := 1) (ret := none) (by decide) rfl ?_
  intro p e s m args below meth c s₁ B0 hml hv
  obtain ⟨rfl, rfl, hK, hN⟩ := hv
  have hx := B0.exec
  have hb := B0.bytes
  have hr := B0.returns
  have hts := atoms_spec (ws := wsX1_openBreaker) B0.pre
  have hown : s.vm.findClass RX1 = some m.cls := findClass_of_methodNamed B0.named
  have hlocks := B0.notSynchronized
  have hF : CallFix p m c cX1_openBreaker 1 s ([.ref a] : List Value).toArray wsX1_openBreaker RX1 := ⟨hx, hb, hml, hown, hts⟩
  have hS : va_S (fun q => q = a) s.heap s.heap [] := va_S.rf
  have hl := lv_entry ([.ref a]) (n := 1) (Nat.le_of_ble_eq_true rfl)
  rw [lg_entry_eq]
  generalize (lg_sl ([.ref a]) ++ List.replicate (1 - (lg_sl ([.ref a])).length) Slot.unset).toArray = ls at hl ⊢
  have hl : lv_has ls 1 [(0, .ref a)] := hl
  refine lv_aload_n hx hb dX1_openBreaker_0 rfl (lv_at hl 0 rfl) ?_
  refine lv_iconst (v := 0) hx hb dX1_openBreaker_1 (by decide) ?_
  refine dp_put (A := fun q => q = a) (v := .int 0) hx hb hts (dp_hin 10 rfl) tyX1 tyX1_ok nmX1 hown hK ha rfl hS rfl 4 (by decide) (hts (.fieldLink RX1 23 "DroopBoard$Diesel" "closed" "Z") (List.mem_of_getElem? (i := 1) rfl)) rfl rfl rfl (Nat.le_of_ble_eq_true rfl) dX1_openBreaker_2 (fun H1 locs hH1 hzH1 hkH1 hS => ?_)
  refine lv_aload_n hx hb dX1_openBreaker_5 rfl (lv_at hl 0 rfl) ?_
  have hc9 : va_at D vwCl (a, .inr (1, dF (upd R (12 + 10 * i) 0) i)) H1 := by rw [show dF (upd R (12 + 10 * i) 0) i = [.int (R (8 + 10 * i)), .int (R (9 + 10 * i)), .int (R (10 + 10 * i)), .int (R (11 + 10 * i)), .int 0, .int (R (13 + 10 * i)), .int (R (14 + 10 * i)), .int (R (15 + 10 * i)), .int (R (16 + 10 * i)), .int (R (17 + 10 * i))] from by simp [dF, upd]]; exact hH1
  refine dp_Vv hF hK hN (c_X1_beginAnew l D G a i (upd R (12 + 10 * i) 0) _ hc9) (cwV 0 hts gX1_openBreaker_X1_beginAnew rfl rfl rfl (by decide +kernel) ⟨Nat.le_of_ble_eq_true rfl, Nat.le_of_ble_eq_true rfl⟩) (dp_recv hK hc9 rfl) hS (fun _ h => h) [] rfl rfl hl.1 (Nat.le_of_ble_eq_true rfl) dX1_openBreaker_6 ⟨Nat.le_of_ble_eq_true rfl, Nat.le_of_ble_eq_true rfl⟩ (fun H2 locs hp hzH2 hkH2 hS => ?_)
  obtain ⟨hz9, hc9⟩ := hp
  exact W.vret hx hb hr (fun t ht hW => ⟨⟨H2, rfl, ⟨(hz9.trans hzH1), hc9⟩, ht⟩, hS.F ht⟩) hS.2.2 dX1_openBreaker_9

set_option maxHeartbeats 600000 in
set_option maxRecDepth 100000 in
theorem c_X1_copyFrom (l : Launch) (D : va_G) (G : Nat → ClassId) (a o i j : Nat) (R R2 : Nat → Int32) (H : Heap) (ha : va_at D vwCl (a, .inr (1, dF R i)) H) (ho : va_at D vwCl (o, .inr (1, dF R2 j)) H) (hne : o ≠ a) (hz1 : R2 (11 + 10 * j) = 0 ∨ R2 (11 + 10 * j) = 1) (hz2 : R2 (12 + 10 * j) = 0 ∨ R2 (12 + 10 * j) = 1) : Met l yX1_copyFrom wsX1_copyFrom ({ frames := 0, cells := 0, slots := 0, locals := 0 } : Room) (va_Pc [.ref a, .ref o] (CX D G H)) (QV (fun q => q = a) (fun h => h.size = H.size ∧ va_at D vwCl (a, .inr (1, dF R2 j)) h)) 0 0 (fun q => q = a) := by
  refine Met.ofW (cc := cX1_copyFrom) (maxL := 2) (ret := none) (by decide) rfl ?_
  intro p e s m args below meth c s₁ B0 hml hv
  obtain ⟨rfl, rfl, hK, hN⟩ := hv
  have hx := B0.exec
  have hb := B0.bytes
  have hr := B0.returns
  have hts := atoms_spec (ws := wsX1_copyFrom) B0.pre
  have hown : s.vm.findClass RX1 = some m.cls := findClass_of_methodNamed B0.named
  have hlocks := B0.notSynchronized
  have hF : CallFix p m c cX1_copyFrom 2 s ([.ref a, .ref o] : List Value).toArray wsX1_copyFrom RX1 := ⟨hx, hb, hml, hown, hts⟩
  have hS : va_S (fun q => q = a) s.heap s.heap [] := va_S.rf
  have hl := lv_entry ([.ref a, .ref o]) (n := 2) (Nat.le_of_ble_eq_true rfl)
  rw [lg_entry_eq]
  generalize (lg_sl ([.ref a, .ref o]) ++ List.replicate (2 - (lg_sl ([.ref a, .ref o])).length) Slot.unset).toArray = ls at hl ⊢
  have hl : lv_has ls 2 [(0, .ref a), (1, .ref o)] := hl
  refine lv_aload_n hx hb dX1_copyFrom_0 rfl (lv_at hl 0 rfl) ?_
  refine lv_aload_n hx hb dX1_copyFrom_1 rfl (lv_at hl 1 rfl) ?_
  refine dp_get hx hb hts (dp_hin 11 rfl) hown hK ho rfl 0 (by decide) (hts (.fieldLink RX1 16 "DroopBoard$Diesel" "rating" "I") (List.mem_of_getElem? (i := 1) rfl)) rfl dX1_copyFrom_2 ?_
  refine dp_put (A := fun q => q = a) (v := .int (R2 (8 + 10 * j))) hx hb hts (dp_hin 11 rfl) tyX1 tyX1_ok nmX1 hown hK ha rfl hS rfl 0 (by decide) (hts (.fieldLink RX1 16 "DroopBoard$Diesel" "rating" "I") (List.mem_of_getElem? (i := 1) rfl)) rfl rfl rfl (Nat.le_of_ble_eq_true rfl) dX1_copyFrom_5 (fun H1 locs hH1 hzH1 hkH1 hS => ?_)
  have ho := ho.kept (hkH1 _ hne)
  refine lv_aload_n hx hb dX1_copyFrom_8 rfl (lv_at hl 0 rfl) ?_
  refine lv_aload_n hx hb dX1_copyFrom_9 rfl (lv_at hl 1 rfl) ?_
  refine dp_get hx hb hts (dp_hin 11 rfl) hown hK ho rfl 1 (by decide) (hts (.fieldLink RX1 7 "DroopBoard$Diesel" "droop" "I") (List.mem_of_getElem? (i := 2) rfl)) rfl dX1_copyFrom_10 ?_
  refine dp_put (A := fun q => q = a) (v := .int (R2 (9 + 10 * j))) hx hb hts (dp_hin 11 rfl) tyX1 tyX1_ok nmX1 hown hK hH1 rfl hS rfl 1 (by decide) (hts (.fieldLink RX1 7 "DroopBoard$Diesel" "droop" "I") (List.mem_of_getElem? (i := 2) rfl)) rfl rfl rfl (Nat.le_of_ble_eq_true rfl) dX1_copyFrom_13 (fun H2 locs hH2 hzH2 hkH2 hS => ?_)
  have ho := ho.kept (hkH2 _ hne)
  refine lv_aload_n hx hb dX1_copyFrom_16 rfl (lv_at hl 0 rfl) ?_
  refine lv_aload_n hx hb dX1_copyFrom_17 rfl (lv_at hl 1 rfl) ?_
  refine dp_get hx hb hts (dp_hin 11 rfl) hown hK ho rfl 2 (by decide) (hts (.fieldLink RX1 13 "DroopBoard$Diesel" "speed" "I") (List.mem_of_getElem? (i := 3) rfl)) rfl dX1_copyFrom_18 ?_
  refine dp_put (A := fun q => q = a) (v := .int (R2 (10 + 10 * j))) hx hb hts (dp_hin 11 rfl) tyX1 tyX1_ok nmX1 hown hK hH2 rfl hS rfl 2 (by decide) (hts (.fieldLink RX1 13 "DroopBoard$Diesel" "speed" "I") (List.mem_of_getElem? (i := 3) rfl)) rfl rfl rfl (Nat.le_of_ble_eq_true rfl) dX1_copyFrom_21 (fun H3 locs hH3 hzH3 hkH3 hS => ?_)
  have ho := ho.kept (hkH3 _ hne)
  refine lv_aload_n hx hb dX1_copyFrom_24 rfl (lv_at hl 0 rfl) ?_
  refine lv_aload_n hx hb dX1_copyFrom_25 rfl (lv_at hl 1 rfl) ?_
  refine dp_get hx hb hts (dp_hin 11 rfl) hown hK ho rfl 3 (by decide) (hts (.fieldLink RX1 19 "DroopBoard$Diesel" "runs" "Z") (List.mem_of_getElem? (i := 4) rfl)) rfl dX1_copyFrom_26 ?_
  refine dp_put (A := fun q => q = a) (v := .int (R2 (11 + 10 * j))) hx hb hts (dp_hin 11 rfl) tyX1 tyX1_ok nmX1 hown hK hH3 rfl hS rfl 3 (by decide) (hts (.fieldLink RX1 19 "DroopBoard$Diesel" "runs" "Z") (List.mem_of_getElem? (i := 4) rfl)) rfl (nz_n hz1) (nz_f hz1) (Nat.le_of_ble_eq_true rfl) dX1_copyFrom_29 (fun H4 locs hH4 hzH4 hkH4 hS => ?_)
  have ho := ho.kept (hkH4 _ hne)
  refine lv_aload_n hx hb dX1_copyFrom_32 rfl (lv_at hl 0 rfl) ?_
  refine lv_aload_n hx hb dX1_copyFrom_33 rfl (lv_at hl 1 rfl) ?_
  refine dp_get hx hb hts (dp_hin 11 rfl) hown hK ho rfl 4 (by decide) (hts (.fieldLink RX1 23 "DroopBoard$Diesel" "closed" "Z") (List.mem_of_getElem? (i := 5) rfl)) rfl dX1_copyFrom_34 ?_
  refine dp_put (A := fun q => q = a) (v := .int (R2 (12 + 10 * j))) hx hb hts (dp_hin 11 rfl) tyX1 tyX1_ok nmX1 hown hK hH4 rfl hS rfl 4 (by decide) (hts (.fieldLink RX1 23 "DroopBoard$Diesel" "closed" "Z") (List.mem_of_getElem? (i := 5) rfl)) rfl (nz_n hz2) (nz_f hz2) (Nat.le_of_ble_eq_true rfl) dX1_copyFrom_37 (fun H5 locs hH5 hzH5 hkH5 hS => ?_)
  have ho := ho.kept (hkH5 _ hne)
  refine lv_aload_n hx hb dX1_copyFrom_40 rfl (lv_at hl 0 rfl) ?_
  refine lv_aload_n hx hb dX1_copyFrom_41 rfl (lv_at hl 1 rfl) ?_
  refine dp_get hx hb hts (dp_hin 11 rfl) hown hK ho rfl 5 (by decide) (hts (.fieldLink RX1 26 "DroopBoard$Diesel" "phase" "I") (List.mem_of_getElem? (i := 6) rfl)) rfl dX1_copyFrom_42 ?_
  refine dp_put (A := fun q => q = a) (v := .int (R2 (13 + 10 * j))) hx hb hts (dp_hin 11 rfl) tyX1 tyX1_ok nmX1 hown hK hH5 rfl hS rfl 5 (by decide) (hts (.fieldLink RX1 26 "DroopBoard$Diesel" "phase" "I") (List.mem_of_getElem? (i := 6) rfl)) rfl rfl rfl (Nat.le_of_ble_eq_true rfl) dX1_copyFrom_45 (fun H6 locs hH6 hzH6 hkH6 hS => ?_)
  have ho := ho.kept (hkH6 _ hne)
  refine lv_aload_n hx hb dX1_copyFrom_48 rfl (lv_at hl 0 rfl) ?_
  refine lv_aload_n hx hb dX1_copyFrom_49 rfl (lv_at hl 1 rfl) ?_
  refine dp_get hx hb hts (dp_hin 11 rfl) hown hK ho rfl 6 (by decide) (hts (.fieldLink RX1 29 "DroopBoard$Diesel" "overloaded" "I") (List.mem_of_getElem? (i := 7) rfl)) rfl dX1_copyFrom_50 ?_
  refine dp_put (A := fun q => q = a) (v := .int (R2 (14 + 10 * j))) hx hb hts (dp_hin 11 rfl) tyX1 tyX1_ok nmX1 hown hK hH6 rfl hS rfl 6 (by decide) (hts (.fieldLink RX1 29 "DroopBoard$Diesel" "overloaded" "I") (List.mem_of_getElem? (i := 7) rfl)) rfl rfl rfl (Nat.le_of_ble_eq_true rfl) dX1_copyFrom_53 (fun H7 locs hH7 hzH7 hkH7 hS => ?_)
  have ho := ho.kept (hkH7 _ hne)
  refine lv_aload_n hx hb dX1_copyFrom_56 rfl (lv_at hl 0 rfl) ?_
  refine lv_aload_n hx hb dX1_copyFrom_57 rfl (lv_at hl 1 rfl) ?_
  refine dp_get hx hb hts (dp_hin 11 rfl) hown hK ho rfl 7 (by decide) (hts (.fieldLink RX1 32 "DroopBoard$Diesel" "driven" "I") (List.mem_of_getElem? (i := 8) rfl)) rfl dX1_copyFrom_58 ?_
  refine dp_put (A := fun q => q = a) (v := .int (R2 (15 + 10 * j))) hx hb hts (dp_hin 11 rfl) tyX1 tyX1_ok nmX1 hown hK hH7 rfl hS rfl 7 (by decide) (hts (.fieldLink RX1 32 "DroopBoard$Diesel" "driven" "I") (List.mem_of_getElem? (i := 8) rfl)) rfl rfl rfl (Nat.le_of_ble_eq_true rfl) dX1_copyFrom_61 (fun H8 locs hH8 hzH8 hkH8 hS => ?_)
  have ho := ho.kept (hkH8 _ hne)
  refine lv_aload_n hx hb dX1_copyFrom_64 rfl (lv_at hl 0 rfl) ?_
  refine lv_aload_n hx hb dX1_copyFrom_65 rfl (lv_at hl 1 rfl) ?_
  refine dp_get hx hb hts (dp_hin 11 rfl) hown hK ho rfl 8 (by decide) (hts (.fieldLink RX1 35 "DroopBoard$Diesel" "energy" "I") (List.mem_of_getElem? (i := 9) rfl)) rfl dX1_copyFrom_66 ?_
  refine dp_put (A := fun q => q = a) (v := .int (R2 (16 + 10 * j))) hx hb hts (dp_hin 11 rfl) tyX1 tyX1_ok nmX1 hown hK hH8 rfl hS rfl 8 (by decide) (hts (.fieldLink RX1 35 "DroopBoard$Diesel" "energy" "I") (List.mem_of_getElem? (i := 9) rfl)) rfl rfl rfl (Nat.le_of_ble_eq_true rfl) dX1_copyFrom_69 (fun H9 locs hH9 hzH9 hkH9 hS => ?_)
  have ho := ho.kept (hkH9 _ hne)
  refine lv_aload_n hx hb dX1_copyFrom_72 rfl (lv_at hl 0 rfl) ?_
  refine lv_aload_n hx hb dX1_copyFrom_73 rfl (lv_at hl 1 rfl) ?_
  refine dp_get hx hb hts (dp_hin 11 rfl) hown hK ho rfl 9 (by decide) (hts (.fieldLink RX1 38 "DroopBoard$Diesel" "trips" "I") (List.mem_of_getElem? (i := 10) rfl)) rfl dX1_copyFrom_74 ?_
  refine dp_put (A := fun q => q = a) (v := .int (R2 (17 + 10 * j))) hx hb hts (dp_hin 11 rfl) tyX1 tyX1_ok nmX1 hown hK hH9 rfl hS rfl 9 (by decide) (hts (.fieldLink RX1 38 "DroopBoard$Diesel" "trips" "I") (List.mem_of_getElem? (i := 10) rfl)) rfl rfl rfl (Nat.le_of_ble_eq_true rfl) dX1_copyFrom_77 (fun H10 locs hH10 hzH10 hkH10 hS => ?_)
  have ho := ho.kept (hkH10 _ hne)
  exact W.vret hx hb hr (fun t ht hW => ⟨⟨H10, rfl, ⟨(hzH10.trans (hzH9.trans (hzH8.trans (hzH7.trans (hzH6.trans (hzH5.trans (hzH4.trans (hzH3.trans (hzH2.trans hzH1))))))))), hH10⟩, ht⟩, hS.F ht⟩) hS.2.2 dX1_copyFrom_80

set_option maxHeartbeats 600000 in
set_option maxRecDepth 100000 in
theorem c_X1_tick (l : Launch) (D : va_G) (G : Nat → ClassId) (a i : Nat) (R : Nat → Int32) (w f : Int32) (H : Heap) (ha : va_at D vwCl (a, .inr (1, dF R i)) H) : Met l yX1_tick wsX1_tick ({ frames := 1, cells := 0, slots := 0, locals := 22 } : Room) (va_Pc [.ref a, .int w, .int f] (CX D G H)) (QV (fun q => q = a) (fun h => h.size = H.size ∧ va_at D vwCl (a, .inr (1, dF (dtk R i w f) i)) h)) 0 0 (fun q => q = a) := by
  refine Met.ofW (cc := cX1_tick) (maxL := 3) (ret := none) (by decide) rfl ?_
  intro p e s m args below meth c s₁ B0 hml hv
  obtain ⟨rfl, rfl, hK, hN⟩ := hv
  have hx := B0.exec
  have hb := B0.bytes
  have hr := B0.returns
  have hts := atoms_spec (ws := wsX1_tick) B0.pre
  have hown : s.vm.findClass RX1 = some m.cls := findClass_of_methodNamed B0.named
  have hlocks := B0.notSynchronized
  have hF : CallFix p m c cX1_tick 3 s ([.ref a, .int w, .int f] : List Value).toArray wsX1_tick RX1 := ⟨hx, hb, hml, hown, hts⟩
  have hS : va_S (fun q => q = a) s.heap s.heap [] := va_S.rf
  have hl := lv_entry ([.ref a, .int w, .int f]) (n := 3) (Nat.le_of_ble_eq_true rfl)
  rw [lg_entry_eq]
  generalize (lg_sl ([.ref a, .int w, .int f]) ++ List.replicate (3 - (lg_sl ([.ref a, .int w, .int f])).length) Slot.unset).toArray = ls at hl ⊢
  have hl : lv_has ls 3 [(0, .ref a), (1, .int w), (2, .int f)] := hl
  refine lv_aload_n hx hb dX1_tick_0 rfl (lv_at hl 0 rfl) ?_
  refine lv_dup hx hb dX1_tick_1 rfl ?_
  refine dp_get hx hb hts (dp_hin 13 rfl) hown hK ha rfl 8 (by decide) (hts (.fieldLink RX1 35 "DroopBoard$Diesel" "energy" "I") (List.mem_of_getElem? (i := 1) rfl)) rfl dX1_tick_2 ?_
  refine lv_iload_n hx hb dX1_tick_5 rfl (lv_at hl 1 rfl) ?_
  refine lv_iadd hx hb dX1_tick_6 ?_
  refine dp_put (A := fun q => q = a) (v := .int ((R (16 + 10 * i)) + w)) hx hb hts (dp_hin 13 rfl) tyX1 tyX1_ok nmX1 hown hK ha rfl hS rfl 8 (by decide) (hts (.fieldLink RX1 35 "DroopBoard$Diesel" "energy" "I") (List.mem_of_getElem? (i := 1) rfl)) rfl rfl rfl (Nat.le_of_ble_eq_true rfl) dX1_tick_7 (fun H1 locs hH1 hzH1 hkH1 hS => ?_)
  refine lv_aload_n hx hb dX1_tick_10 rfl (lv_at hl 0 rfl) ?_
  refine dp_get hx hb hts (dp_hin 13 rfl) hown hK hH1 rfl 4 (by decide) (hts (.fieldLink RX1 23 "DroopBoard$Diesel" "closed" "Z") (List.mem_of_getElem? (i := 2) rfl)) rfl dX1_tick_11 ?_
  refine lv_if_eq (tgt := 76) hx hb dX1_tick_14 (by decide) (fun c1 => ?_) (fun c1 => ?_)
  · refine lv_aload_n hx hb dX1_tick_76 rfl (lv_at hl 0 rfl) ?_
    refine dp_get hx hb hts (dp_hin 13 rfl) hown hK hH1 rfl 3 (by decide) (hts (.fieldLink RX1 19 "DroopBoard$Diesel" "runs" "Z") (List.mem_of_getElem? (i := 6) rfl)) rfl dX1_tick_77 ?_
    refine lv_if_eq (tgt := 108) hx hb dX1_tick_80 (by decide) (fun c2 => ?_) (fun c2 => ?_)
    · exact W.vret hx hb hr (fun t ht hW => ⟨⟨H1, rfl, ⟨hzH1, by rw [show dF (dtk R i w f) i = [.int (R (8 + 10 * i)), .int (R (9 + 10 * i)), .int (R (10 + 10 * i)), .int (R (11 + 10 * i)), .int (R (12 + 10 * i)), .int (R (13 + 10 * i)), .int (R (14 + 10 * i)), .int (R (15 + 10 * i)), .int ((R (16 + 10 * i)) + w), .int (R (17 + 10 * i))] from by simp [dF, upd, dtk, c1, c2]]; exact hH1⟩, ht⟩, hS.F ht⟩) hS.2.2 dX1_tick_108
    refine lv_iload_n hx hb dX1_tick_83 rfl (lv_at hl 2 rfl) ?_
    refine lv_if_le (tgt := 108) hx hb dX1_tick_84 (by decide) (fun c3 => ?_) (fun c3 => ?_)
    · exact W.vret hx hb hr (fun t ht hW => ⟨⟨H1, rfl, ⟨hzH1, by rw [show dF (dtk R i w f) i = [.int (R (8 + 10 * i)), .int (R (9 + 10 * i)), .int (R (10 + 10 * i)), .int (R (11 + 10 * i)), .int (R (12 + 10 * i)), .int (R (13 + 10 * i)), .int (R (14 + 10 * i)), .int (R (15 + 10 * i)), .int ((R (16 + 10 * i)) + w), .int (R (17 + 10 * i))] from by simp [dF, upd, dtk, c1, c2, c3]]; exact hH1⟩, ht⟩, hS.F ht⟩) hS.2.2 dX1_tick_108
    refine lv_aload_n hx hb dX1_tick_87 rfl (lv_at hl 0 rfl) ?_
    refine lv_aload_n hx hb dX1_tick_88 rfl (lv_at hl 0 rfl) ?_
    refine dp_get hx hb hts (dp_hin 13 rfl) hown hK hH1 rfl 5 (by decide) (hts (.fieldLink RX1 26 "DroopBoard$Diesel" "phase" "I") (List.mem_of_getElem? (i := 7) rfl)) rfl dX1_tick_89 ?_
    refine lv_aload_n hx hb dX1_tick_92 rfl (lv_at hl 0 rfl) ?_
    refine dp_get hx hb hts (dp_hin 13 rfl) hown hK hH1 rfl 2 (by decide) (hts (.fieldLink RX1 13 "DroopBoard$Diesel" "speed" "I") (List.mem_of_getElem? (i := 8) rfl)) rfl dX1_tick_93 ?_
    refine lv_iadd hx hb dX1_tick_96 ?_
    refine lv_iload_n hx hb dX1_tick_97 rfl (lv_at hl 2 rfl) ?_
    refine lv_isub hx hb dX1_tick_98 ?_
    refine lv_sipush (v := 1000) hx hb dX1_tick_99 (by decide) ?_
    refine dp_Si hF hK hN (c_J9_floorMod_7cf53 l D G (((R (13 + 10 * i)) + (R (10 + 10 * i))) - f) 1000 _ (by decide)) (va_cwS 2 hts gX1_tick_J9_floorMod_7cf53 rfl rfl rfl (by decide +kernel) ⟨Nat.le_of_ble_eq_true rfl, Nat.le_of_ble_eq_true rfl⟩) hS nA_i [.ref a] rfl rfl hl.1 (Nat.le_of_ble_eq_true rfl) dX1_tick_102 ⟨Nat.le_of_ble_eq_true rfl, Nat.le_of_ble_eq_true rfl⟩ (fun rH2 H2 locs hp hzH2 hkH2 hS => ?_)
    obtain ⟨rfl, rfl⟩ := hp
    refine dp_put (A := fun q => q = a) (v := .int (fmd (((R (13 + 10 * i)) + (R (10 + 10 * i))) - f) 1000)) hx hb hts (dp_hin 13 rfl) tyX1 tyX1_ok nmX1 hown hK hH1 rfl hS rfl 5 (by decide) (hts (.fieldLink RX1 26 "DroopBoard$Diesel" "phase" "I") (List.mem_of_getElem? (i := 7) rfl)) rfl rfl rfl (Nat.le_of_ble_eq_true rfl) dX1_tick_105 (fun H3 locs hH3 hzH3 hkH3 hS => ?_)
    exact W.vret hx hb hr (fun t ht hW => ⟨⟨H3, rfl, ⟨(hzH3.trans hzH1), by rw [show dF (dtk R i w f) i = [.int (R (8 + 10 * i)), .int (R (9 + 10 * i)), .int (R (10 + 10 * i)), .int (R (11 + 10 * i)), .int (R (12 + 10 * i)), .int (fmd (((R (13 + 10 * i)) + (R (10 + 10 * i))) - f) 1000), .int (R (14 + 10 * i)), .int (R (15 + 10 * i)), .int ((R (16 + 10 * i)) + w), .int (R (17 + 10 * i))] from by simp [dF, upd, dtk, c1, c2, c3]]; exact hH3⟩, ht⟩, hS.F ht⟩) hS.2.2 dX1_tick_108
  refine lv_aload_n hx hb dX1_tick_17 rfl (lv_at hl 0 rfl) ?_
  refine lv_iload_n hx hb dX1_tick_18 rfl (lv_at hl 1 rfl) ?_
  refine lv_aload_n hx hb dX1_tick_19 rfl (lv_at hl 0 rfl) ?_
  refine dp_get hx hb hts (dp_hin 13 rfl) hown hK hH1 rfl 0 (by decide) (hts (.fieldLink RX1 16 "DroopBoard$Diesel" "rating" "I") (List.mem_of_getElem? (i := 3) rfl)) rfl dX1_tick_20 ?_
  refine lv_aload_n hx hb dX1_tick_23 rfl (lv_at hl 0 rfl) ?_
  refine dp_get hx hb hts (dp_hin 13 rfl) hown hK hH1 rfl 0 (by decide) (hts (.fieldLink RX1 16 "DroopBoard$Diesel" "rating" "I") (List.mem_of_getElem? (i := 3) rfl)) rfl dX1_tick_24 ?_
  refine lv_bipush (v := 10) hx hb dX1_tick_27 (by decide) ?_
  refine lv_idiv hx hb dX1_tick_29 (by decide) ?_
  refine lv_iadd hx hb dX1_tick_30 ?_
  refine lv_icmp_le (tgt := 43) hx hb dX1_tick_31 (by decide) (fun c4 => ?_) (fun c4 => ?_)
  · refine lv_iconst (v := 0) hx hb dX1_tick_43 (by decide) ?_
    refine dp_put (A := fun q => q = a) (v := .int 0) hx hb hts (dp_hin 13 rfl) tyX1 tyX1_ok nmX1 hown hK hH1 rfl hS rfl 6 (by decide) (hts (.fieldLink RX1 29 "DroopBoard$Diesel" "overloaded" "I") (List.mem_of_getElem? (i := 4) rfl)) rfl rfl rfl (Nat.le_of_ble_eq_true rfl) dX1_tick_44 (fun H4 locs hH4 hzH4 hkH4 hS => ?_)
    refine lv_aload_n hx hb dX1_tick_47 rfl (lv_at hl 0 rfl) ?_
    refine lv_iload_n hx hb dX1_tick_48 rfl (lv_at hl 1 rfl) ?_
    refine lv_aload_n hx hb dX1_tick_49 rfl (lv_at hl 0 rfl) ?_
    refine dp_get hx hb hts (dp_hin 13 rfl) hown hK hH4 rfl 0 (by decide) (hts (.fieldLink RX1 16 "DroopBoard$Diesel" "rating" "I") (List.mem_of_getElem? (i := 3) rfl)) rfl dX1_tick_50 ?_
    refine lv_bipush (v := 20) hx hb dX1_tick_53 (by decide) ?_
    refine lv_idiv hx hb dX1_tick_55 (by decide) ?_
    refine lv_ineg hx hb dX1_tick_56 ?_
    refine lv_icmp_ge (tgt := 69) hx hb dX1_tick_57 (by decide) (fun c5 => ?_) (fun c5 => ?_)
    · refine lv_iconst (v := 0) hx hb dX1_tick_69 (by decide) ?_
      refine dp_put (A := fun q => q = a) (v := .int 0) hx hb hts (dp_hin 13 rfl) tyX1 tyX1_ok nmX1 hown hK hH4 rfl hS rfl 7 (by decide) (hts (.fieldLink RX1 32 "DroopBoard$Diesel" "driven" "I") (List.mem_of_getElem? (i := 5) rfl)) rfl rfl rfl (Nat.le_of_ble_eq_true rfl) dX1_tick_70 (fun H5 locs hH5 hzH5 hkH5 hS => ?_)
      refine lv_goto (tgt := 108) hx hb dX1_tick_73 (by decide) ?_
      exact W.vret hx hb hr (fun t ht hW => ⟨⟨H5, rfl, ⟨(hzH5.trans (hzH4.trans hzH1)), by rw [show dF (dtk R i w f) i = [.int (R (8 + 10 * i)), .int (R (9 + 10 * i)), .int (R (10 + 10 * i)), .int (R (11 + 10 * i)), .int (R (12 + 10 * i)), .int (R (13 + 10 * i)), .int 0, .int 0, .int ((R (16 + 10 * i)) + w), .int (R (17 + 10 * i))] from by simp [dF, upd, dtk, c1, c4, c5]]; exact hH5⟩, ht⟩, hS.F ht⟩) hS.2.2 dX1_tick_108
    refine lv_aload_n hx hb dX1_tick_60 rfl (lv_at hl 0 rfl) ?_
    refine dp_get hx hb hts (dp_hin 13 rfl) hown hK hH4 rfl 7 (by decide) (hts (.fieldLink RX1 32 "DroopBoard$Diesel" "driven" "I") (List.mem_of_getElem? (i := 5) rfl)) rfl dX1_tick_61 ?_
    refine lv_iconst (v := 1) hx hb dX1_tick_64 (by decide) ?_
    refine lv_iadd hx hb dX1_tick_65 ?_
    refine lv_goto (tgt := 70) hx hb dX1_tick_66 (by decide) ?_
    refine dp_put (A := fun q => q = a) (v := .int ((R (15 + 10 * i)) + 1)) hx hb hts (dp_hin 13 rfl) tyX1 tyX1_ok nmX1 hown hK hH4 rfl hS rfl 7 (by decide) (hts (.fieldLink RX1 32 "DroopBoard$Diesel" "driven" "I") (List.mem_of_getElem? (i := 5) rfl)) rfl rfl rfl (Nat.le_of_ble_eq_true rfl) dX1_tick_70 (fun H6 locs hH6 hzH6 hkH6 hS => ?_)
    refine lv_goto (tgt := 108) hx hb dX1_tick_73 (by decide) ?_
    exact W.vret hx hb hr (fun t ht hW => ⟨⟨H6, rfl, ⟨(hzH6.trans (hzH4.trans hzH1)), by rw [show dF (dtk R i w f) i = [.int (R (8 + 10 * i)), .int (R (9 + 10 * i)), .int (R (10 + 10 * i)), .int (R (11 + 10 * i)), .int (R (12 + 10 * i)), .int (R (13 + 10 * i)), .int 0, .int ((R (15 + 10 * i)) + 1), .int ((R (16 + 10 * i)) + w), .int (R (17 + 10 * i))] from by simp [dF, upd, dtk, c1, c4, c5]]; exact hH6⟩, ht⟩, hS.F ht⟩) hS.2.2 dX1_tick_108
  refine lv_aload_n hx hb dX1_tick_34 rfl (lv_at hl 0 rfl) ?_
  refine dp_get hx hb hts (dp_hin 13 rfl) hown hK hH1 rfl 6 (by decide) (hts (.fieldLink RX1 29 "DroopBoard$Diesel" "overloaded" "I") (List.mem_of_getElem? (i := 4) rfl)) rfl dX1_tick_35 ?_
  refine lv_iconst (v := 1) hx hb dX1_tick_38 (by decide) ?_
  refine lv_iadd hx hb dX1_tick_39 ?_
  refine lv_goto (tgt := 44) hx hb dX1_tick_40 (by decide) ?_
  refine dp_put (A := fun q => q = a) (v := .int ((R (14 + 10 * i)) + 1)) hx hb hts (dp_hin 13 rfl) tyX1 tyX1_ok nmX1 hown hK hH1 rfl hS rfl 6 (by decide) (hts (.fieldLink RX1 29 "DroopBoard$Diesel" "overloaded" "I") (List.mem_of_getElem? (i := 4) rfl)) rfl rfl rfl (Nat.le_of_ble_eq_true rfl) dX1_tick_44 (fun H7 locs hH7 hzH7 hkH7 hS => ?_)
  refine lv_aload_n hx hb dX1_tick_47 rfl (lv_at hl 0 rfl) ?_
  refine lv_iload_n hx hb dX1_tick_48 rfl (lv_at hl 1 rfl) ?_
  refine lv_aload_n hx hb dX1_tick_49 rfl (lv_at hl 0 rfl) ?_
  refine dp_get hx hb hts (dp_hin 13 rfl) hown hK hH7 rfl 0 (by decide) (hts (.fieldLink RX1 16 "DroopBoard$Diesel" "rating" "I") (List.mem_of_getElem? (i := 3) rfl)) rfl dX1_tick_50 ?_
  refine lv_bipush (v := 20) hx hb dX1_tick_53 (by decide) ?_
  refine lv_idiv hx hb dX1_tick_55 (by decide) ?_
  refine lv_ineg hx hb dX1_tick_56 ?_
  refine lv_icmp_ge (tgt := 69) hx hb dX1_tick_57 (by decide) (fun c6 => ?_) (fun c6 => ?_)
  · refine lv_iconst (v := 0) hx hb dX1_tick_69 (by decide) ?_
    refine dp_put (A := fun q => q = a) (v := .int 0) hx hb hts (dp_hin 13 rfl) tyX1 tyX1_ok nmX1 hown hK hH7 rfl hS rfl 7 (by decide) (hts (.fieldLink RX1 32 "DroopBoard$Diesel" "driven" "I") (List.mem_of_getElem? (i := 5) rfl)) rfl rfl rfl (Nat.le_of_ble_eq_true rfl) dX1_tick_70 (fun H8 locs hH8 hzH8 hkH8 hS => ?_)
    refine lv_goto (tgt := 108) hx hb dX1_tick_73 (by decide) ?_
    exact W.vret hx hb hr (fun t ht hW => ⟨⟨H8, rfl, ⟨(hzH8.trans (hzH7.trans hzH1)), by rw [show dF (dtk R i w f) i = [.int (R (8 + 10 * i)), .int (R (9 + 10 * i)), .int (R (10 + 10 * i)), .int (R (11 + 10 * i)), .int (R (12 + 10 * i)), .int (R (13 + 10 * i)), .int ((R (14 + 10 * i)) + 1), .int 0, .int ((R (16 + 10 * i)) + w), .int (R (17 + 10 * i))] from by simp [dF, upd, dtk, c1, c4, c6]]; exact hH8⟩, ht⟩, hS.F ht⟩) hS.2.2 dX1_tick_108
  refine lv_aload_n hx hb dX1_tick_60 rfl (lv_at hl 0 rfl) ?_
  refine dp_get hx hb hts (dp_hin 13 rfl) hown hK hH7 rfl 7 (by decide) (hts (.fieldLink RX1 32 "DroopBoard$Diesel" "driven" "I") (List.mem_of_getElem? (i := 5) rfl)) rfl dX1_tick_61 ?_
  refine lv_iconst (v := 1) hx hb dX1_tick_64 (by decide) ?_
  refine lv_iadd hx hb dX1_tick_65 ?_
  refine lv_goto (tgt := 70) hx hb dX1_tick_66 (by decide) ?_
  refine dp_put (A := fun q => q = a) (v := .int ((R (15 + 10 * i)) + 1)) hx hb hts (dp_hin 13 rfl) tyX1 tyX1_ok nmX1 hown hK hH7 rfl hS rfl 7 (by decide) (hts (.fieldLink RX1 32 "DroopBoard$Diesel" "driven" "I") (List.mem_of_getElem? (i := 5) rfl)) rfl rfl rfl (Nat.le_of_ble_eq_true rfl) dX1_tick_70 (fun H9 locs hH9 hzH9 hkH9 hS => ?_)
  refine lv_goto (tgt := 108) hx hb dX1_tick_73 (by decide) ?_
  exact W.vret hx hb hr (fun t ht hW => ⟨⟨H9, rfl, ⟨(hzH9.trans (hzH7.trans hzH1)), by rw [show dF (dtk R i w f) i = [.int (R (8 + 10 * i)), .int (R (9 + 10 * i)), .int (R (10 + 10 * i)), .int (R (11 + 10 * i)), .int (R (12 + 10 * i)), .int (R (13 + 10 * i)), .int ((R (14 + 10 * i)) + 1), .int ((R (15 + 10 * i)) + 1), .int ((R (16 + 10 * i)) + w), .int (R (17 + 10 * i))] from by simp [dF, upd, dtk, c1, c4, c6]]; exact hH9⟩, ht⟩, hS.F ht⟩) hS.2.2 dX1_tick_108
