set_option maxHeartbeats 600000 in
set_option maxRecDepth 100000 in
theorem c_Jxe99ae_isNaN_b9ae7 (l : Launch) (D : va_G) (G : Nat → ClassId) (b : UInt64) (H : Heap) (hb9 : Op.cmpValue (FP.dcmp b b) .l = 0) : Met l yJxe99ae_isNaN_b9ae7 wsJxe99ae_isNaN_b9ae7 ({ frames := 0, cells := 0, slots := 0, locals := 0 } : Room) (va_Pc [.double b] (CX D G H)) (QI nA (fun r h => H = h ∧ 0 = r)) 0 0 (nA) := by
  refine va_MetF (cc := cJxe99ae_isNaN_b9ae7) (maxL := 2) (ret := (some .boolean)) (by decide +kernel) rfl ?_
  intro p e s m args below meth c s₁ B0 hml hv
  obtain ⟨rfl, rfl, hK, hN⟩ := hv
  have hx := B0.exec
  have hb := B0.bytes
  have hr := B0.returns
  have hts := atoms_spec (ws := wsJxe99ae_isNaN_b9ae7) B0.pre
  have hown : s.vm.findClass RJxe99ae = some m.cls := findClass_of_methodNamed B0.named
  have hlocks := B0.notSynchronized
  have hF : CallFix p m c cJxe99ae_isNaN_b9ae7 2 s ([.double b] : List Value).toArray wsJxe99ae_isNaN_b9ae7 RJxe99ae := ⟨hx, hb, hml, hown, hts⟩
  have hS : va_S (nA) s.heap s.heap [] := va_S.rf
  have hl := lv_entry ([.double b]) (n := 2) (Nat.le_of_ble_eq_true rfl)
  rw [lg_entry_eq]
  generalize (lg_sl ([.double b]) ++ List.replicate (2 - (lg_sl ([.double b])).length) Slot.unset).toArray = ls at hl ⊢
  have hl : lv_has ls 2 [(0, .double b)] := hl
  refine lv_dload_n hx hb dJxe99ae_isNaN_b9ae7_0 rfl (lv_at hl 0 rfl) ?_
  refine lv_dload_n hx hb dJxe99ae_isNaN_b9ae7_1 rfl (lv_at hl 0 rfl) ?_
  refine lv_dcmp hx hb dJxe99ae_isNaN_b9ae7_2 ?_
  refine lv_if_eq (tgt := 10) hx hb dJxe99ae_isNaN_b9ae7_3 (by decide) (fun c1 => ?_) (fun c1 => absurd hb9 c1)
  refine lv_iconst (v := 0) hx hb dJxe99ae_isNaN_b9ae7_10 (by decide) ?_
  exact W.zret (ty := .boolean) hx hb hr rfl (fun t ht hW => ⟨⟨0, s.heap, rfl, ⟨rfl, rfl⟩, ht⟩, hS.F ht⟩) hS.2.2 dJxe99ae_isNaN_b9ae7_11

set_option maxHeartbeats 600000 in
set_option maxRecDepth 100000 in
theorem c_Jxf58ca_isNaN_12338 (l : Launch) (D : va_G) (G : Nat → ClassId) (b : UInt32) (H : Heap) (hb9 : Op.cmpValue (FP.fcmp b b) .l = 0) : Met l yJxf58ca_isNaN_12338 wsJxf58ca_isNaN_12338 ({ frames := 0, cells := 0, slots := 0, locals := 0 } : Room) (va_Pc [.float b] (CX D G H)) (QI nA (fun r h => H = h ∧ 0 = r)) 0 0 (nA) := by
  refine va_MetF (cc := cJxf58ca_isNaN_12338) (maxL := 1) (ret := (some .boolean)) (by decide +kernel) rfl ?_
  intro p e s m args below meth c s₁ B0 hml hv
  obtain ⟨rfl, rfl, hK, hN⟩ := hv
  have hx := B0.exec
  have hb := B0.bytes
  have hr := B0.returns
  have hts := atoms_spec (ws := wsJxf58ca_isNaN_12338) B0.pre
  have hown : s.vm.findClass RJxf58ca = some m.cls := findClass_of_methodNamed B0.named
  have hlocks := B0.notSynchronized
  have hF : CallFix p m c cJxf58ca_isNaN_12338 1 s ([.float b] : List Value).toArray wsJxf58ca_isNaN_12338 RJxf58ca := ⟨hx, hb, hml, hown, hts⟩
  have hS : va_S (nA) s.heap s.heap [] := va_S.rf
  have hl := lv_entry ([.float b]) (n := 1) (Nat.le_of_ble_eq_true rfl)
  rw [lg_entry_eq]
  generalize (lg_sl ([.float b]) ++ List.replicate (1 - (lg_sl ([.float b])).length) Slot.unset).toArray = ls at hl ⊢
  have hl : lv_has ls 1 [(0, .float b)] := hl
  refine lv_fload_n hx hb dJxf58ca_isNaN_12338_0 rfl (lv_at hl 0 rfl) ?_
  refine lv_fload_n hx hb dJxf58ca_isNaN_12338_1 rfl (lv_at hl 0 rfl) ?_
  refine lv_fcmp hx hb dJxf58ca_isNaN_12338_2 ?_
  refine lv_if_eq (tgt := 10) hx hb dJxf58ca_isNaN_12338_3 (by decide) (fun c1 => ?_) (fun c1 => absurd hb9 c1)
  refine lv_iconst (v := 0) hx hb dJxf58ca_isNaN_12338_10 (by decide) ?_
  exact W.zret (ty := .boolean) hx hb hr rfl (fun t ht hW => ⟨⟨0, s.heap, rfl, ⟨rfl, rfl⟩, ht⟩, hS.F ht⟩) hS.2.2 dJxf58ca_isNaN_12338_11

set_option maxHeartbeats 600000 in
set_option maxRecDepth 100000 in
theorem c_Jxe99ae_doubleToLongBits_ccdee (l : Launch) (D : va_G) (G : Nat → ClassId) (b : UInt64) (H : Heap) (hb9 : Op.cmpValue (FP.dcmp b b) .l = 0) : Met l yJxe99ae_doubleToLongBits_ccdee wsJxe99ae_doubleToLongBits_ccdee ({ frames := 1, cells := 0, slots := 0, locals := 21 } : Room) (va_Pc [.double b] (CX D G H)) (QL nA (fun r h => H = h ∧ b.toInt64 = r)) 0 0 (nA) := by
  refine va_MetF (cc := cJxe99ae_doubleToLongBits_ccdee) (maxL := 2) (ret := (some .long)) (by decide +kernel) rfl ?_
  intro p e s m args below meth c s₁ B0 hml hv
  obtain ⟨rfl, rfl, hK, hN⟩ := hv
  have hx := B0.exec
  have hb := B0.bytes
  have hr := B0.returns
  have hts := atoms_spec (ws := wsJxe99ae_doubleToLongBits_ccdee) B0.pre
  have hown : s.vm.findClass RJxe99ae = some m.cls := findClass_of_methodNamed B0.named
  have hlocks := B0.notSynchronized
  have hF : CallFix p m c cJxe99ae_doubleToLongBits_ccdee 2 s ([.double b] : List Value).toArray wsJxe99ae_doubleToLongBits_ccdee RJxe99ae := ⟨hx, hb, hml, hown, hts⟩
  have hS : va_S (nA) s.heap s.heap [] := va_S.rf
  have hl := lv_entry ([.double b]) (n := 2) (Nat.le_of_ble_eq_true rfl)
  rw [lg_entry_eq]
  generalize (lg_sl ([.double b]) ++ List.replicate (2 - (lg_sl ([.double b])).length) Slot.unset).toArray = ls at hl ⊢
  have hl : lv_has ls 2 [(0, .double b)] := hl
  refine lv_dload_n hx hb dJxe99ae_doubleToLongBits_ccdee_0 rfl (lv_at hl 0 rfl) ?_
  refine dp_Si hF hK hN (c_Jxe99ae_isNaN_b9ae7 l D G b _ hb9) (va_cwS 1 hts gJxe99ae_doubleToLongBits_ccdee_Jxe99ae_isNaN_b9ae7 rfl rfl rfl (by decide +kernel) ⟨Nat.le_of_ble_eq_true rfl, Nat.le_of_ble_eq_true rfl⟩) hS nA_i [] rfl rfl hl.1 (Nat.le_of_ble_eq_true rfl) dJxe99ae_doubleToLongBits_ccdee_1 ⟨Nat.le_of_ble_eq_true rfl, Nat.le_of_ble_eq_true rfl⟩ (fun rH1 H1 locs hp hzH1 hkH1 hS => ?_)
  obtain ⟨rfl, rfl⟩ := hp
  refine lv_if_ne (tgt := 12) hx hb dJxe99ae_doubleToLongBits_ccdee_4 (by decide) (fun c1 => absurd c1 (by decide)) (fun c1 => ?_)
  refine lv_dload_n hx hb dJxe99ae_doubleToLongBits_ccdee_7 rfl (lv_at hl 0 rfl) ?_
  refine vn_d2l (rest := []) hx hb (hml.trans hl.1.symm) hown (hts (.methodLink RJxe99ae 134 ⟨"java/lang/Double", "doubleToRawLongBits", "(D)J"⟩) (List.mem_of_getElem? (i := 1) rfl)) (hts (.native ⟨"java/lang/Double", "doubleToRawLongBits", "(D)J"⟩) (List.mem_of_getElem? (i := 2) rfl)) (hts (.static ⟨"java/lang/Double", "doubleToRawLongBits", "(D)J"⟩) (List.mem_of_getElem? (i := 3) rfl)) (hts (.initialized "java/lang/Double") (List.mem_of_getElem? (i := 4) rfl)) (Nat.le_of_ble_eq_true rfl) (Nat.le_of_ble_eq_true rfl) dJxe99ae_doubleToLongBits_ccdee_8 ?_
  exact W.lret hx hb hr (fun t ht hW => ⟨⟨b.toInt64, s.heap, rfl, ⟨rfl, rfl⟩, ht⟩, hS.F ht⟩) hS.2.2 dJxe99ae_doubleToLongBits_ccdee_11

set_option maxHeartbeats 600000 in
set_option maxRecDepth 100000 in
theorem c_Jxf58ca_floatToIntBits_5c35a (l : Launch) (D : va_G) (G : Nat → ClassId) (b : UInt32) (H : Heap) (hb9 : Op.cmpValue (FP.fcmp b b) .l = 0) : Met l yJxf58ca_floatToIntBits_5c35a wsJxf58ca_floatToIntBits_5c35a ({ frames := 1, cells := 0, slots := 0, locals := 20 } : Room) (va_Pc [.float b] (CX D G H)) (QI nA (fun r h => H = h ∧ b.toInt32 = r)) 0 0 (nA) := by
  refine va_MetF (cc := cJxf58ca_floatToIntBits_5c35a) (maxL := 1) (ret := (some .int)) (by decide +kernel) rfl ?_
  intro p e s m args below meth c s₁ B0 hml hv
  obtain ⟨rfl, rfl, hK, hN⟩ := hv
  have hx := B0.exec
  have hb := B0.bytes
  have hr := B0.returns
  have hts := atoms_spec (ws := wsJxf58ca_floatToIntBits_5c35a) B0.pre
  have hown : s.vm.findClass RJxf58ca = some m.cls := findClass_of_methodNamed B0.named
  have hlocks := B0.notSynchronized
  have hF : CallFix p m c cJxf58ca_floatToIntBits_5c35a 1 s ([.float b] : List Value).toArray wsJxf58ca_floatToIntBits_5c35a RJxf58ca := ⟨hx, hb, hml, hown, hts⟩
  have hS : va_S (nA) s.heap s.heap [] := va_S.rf
  have hl := lv_entry ([.float b]) (n := 1) (Nat.le_of_ble_eq_true rfl)
  rw [lg_entry_eq]
  generalize (lg_sl ([.float b]) ++ List.replicate (1 - (lg_sl ([.float b])).length) Slot.unset).toArray = ls at hl ⊢
  have hl : lv_has ls 1 [(0, .float b)] := hl
  refine lv_fload_n hx hb dJxf58ca_floatToIntBits_5c35a_0 rfl (lv_at hl 0 rfl) ?_
  refine dp_Si hF hK hN (c_Jxf58ca_isNaN_12338 l D G b _ hb9) (va_cwS 1 hts gJxf58ca_floatToIntBits_5c35a_Jxf58ca_isNaN_12338 rfl rfl rfl (by decide +kernel) ⟨Nat.le_of_ble_eq_true rfl, Nat.le_of_ble_eq_true rfl⟩) hS nA_i [] rfl rfl hl.1 (Nat.le_of_ble_eq_true rfl) dJxf58ca_floatToIntBits_5c35a_1 ⟨Nat.le_of_ble_eq_true rfl, Nat.le_of_ble_eq_true rfl⟩ (fun rH1 H1 locs hp hzH1 hkH1 hS => ?_)
  obtain ⟨rfl, rfl⟩ := hp
  refine lv_if_ne (tgt := 12) hx hb dJxf58ca_floatToIntBits_5c35a_4 (by decide) (fun c1 => absurd c1 (by decide)) (fun c1 => ?_)
  refine lv_fload_n hx hb dJxf58ca_floatToIntBits_5c35a_7 rfl (lv_at hl 0 rfl) ?_
  refine vn_f2i (rest := []) hx hb (hml.trans hl.1.symm) hown (hts (.methodLink RJxf58ca 74 ⟨"java/lang/Float", "floatToRawIntBits", "(F)I"⟩) (List.mem_of_getElem? (i := 1) rfl)) (hts (.native ⟨"java/lang/Float", "floatToRawIntBits", "(F)I"⟩) (List.mem_of_getElem? (i := 2) rfl)) (hts (.static ⟨"java/lang/Float", "floatToRawIntBits", "(F)I"⟩) (List.mem_of_getElem? (i := 3) rfl)) (hts (.initialized "java/lang/Float") (List.mem_of_getElem? (i := 4) rfl)) (Nat.le_of_ble_eq_true rfl) (Nat.le_of_ble_eq_true rfl) dJxf58ca_floatToIntBits_5c35a_8 ?_
  exact W.iret hx hb hr (fun t ht hW => ⟨⟨b.toInt32, s.heap, rfl, ⟨rfl, rfl⟩, ht⟩, hS.F ht⟩) hS.2.2 dJxf58ca_floatToIntBits_5c35a_11

set_option maxHeartbeats 600000 in
set_option maxRecDepth 100000 in
theorem c_X6_maySet (l : Launch) (D : va_G) (G : Nat → ClassId) (j : Nat) (x : Int32) (H : Heap) (hj : j < 4) : Met l yX6_maySet wsX6_maySet ({ frames := 1, cells := 0, slots := 0, locals := 22 } : Room) (va_Pc [.int (nI j), .int x] (CX D G H)) (QI nA (fun r h => H = h ∧ (if x < lst j then 0 else if mst j < x then 0 else 1) = r)) 0 0 (nA) := by
  refine Met.ofW (cc := cX6_maySet) (maxL := 2) (ret := (some .boolean)) (by decide) rfl ?_
  intro p e s m args below meth c s₁ B0 hml hv
  obtain ⟨rfl, rfl, hK, hN⟩ := hv
  have hx := B0.exec
  have hb := B0.bytes
  have hr := B0.returns
  have hts := atoms_spec (ws := wsX6_maySet) B0.pre
  have hown : s.vm.findClass RX6 = some m.cls := findClass_of_methodNamed B0.named
  have hlocks := B0.notSynchronized
  have hF : CallFix p m c cX6_maySet 2 s ([.int (nI j), .int x] : List Value).toArray wsX6_maySet RX6 := ⟨hx, hb, hml, hown, hts⟩
  have hS : va_S (nA) s.heap s.heap [] := va_S.rf
  have hl := lv_entry ([.int (nI j), .int x]) (n := 2) (Nat.le_of_ble_eq_true rfl)
  rw [lg_entry_eq]
  generalize (lg_sl ([.int (nI j), .int x]) ++ List.replicate (2 - (lg_sl ([.int (nI j), .int x])).length) Slot.unset).toArray = ls at hl ⊢
  have hl : lv_has ls 2 [(0, .int (nI j)), (1, .int x)] := hl
  rcases (show j = 0 ∨ j = 1 ∨ j = 2 ∨ j = 3 by omega) with rfl | rfl | rfl | rfl
  · refine lv_iload_n hx hb dX6_maySet_0 rfl (lv_at hl 0 rfl) ?_
    refine lv_iconst (v := 2) hx hb dX6_maySet_1 (by decide) ?_
    refine lv_icmp_ge (tgt := 15) hx hb dX6_maySet_2 (by decide) (fun c1 => absurd c1 (by decide)) (fun c1 => ?_)
    refine lv_iload_n hx hb dX6_maySet_5 rfl (lv_at hl 1 rfl) ?_
    refine lv_iconst (v := 1) hx hb dX6_maySet_6 (by decide) ?_
    refine lv_bipush (v := 9) hx hb dX6_maySet_7 (by decide) ?_
    refine dp_Si hF hK hN (c_X6_in l D G x 1 9 _) (va_cwS 3 hts gX6_maySet_X6_in rfl rfl rfl (by decide +kernel) ⟨Nat.le_of_ble_eq_true rfl, Nat.le_of_ble_eq_true rfl⟩) hS nA_i [] rfl rfl hl.1 (Nat.le_of_ble_eq_true rfl) dX6_maySet_9 ⟨Nat.le_of_ble_eq_true rfl, Nat.le_of_ble_eq_true rfl⟩ (fun rH1 H1 locs hp hzH1 hkH1 hS => ?_)
    obtain ⟨rfl, rfl⟩ := hp
    refine lv_goto (tgt := 33) hx hb dX6_maySet_12 (by decide) ?_
    exact W.zret (ty := .boolean) hx hb hr (nz_n (by split; exact Or.inl rfl; split; exact Or.inl rfl; exact Or.inr rfl)) (fun t ht hW => ⟨⟨(if x < 1 then 0 else if 9 < x then 0 else 1), s.heap, rfl, ⟨rfl, rfl⟩, ht⟩, hS.F ht⟩) hS.2.2 dX6_maySet_33
  · refine lv_iload_n hx hb dX6_maySet_0 rfl (lv_at hl 0 rfl) ?_
    refine lv_iconst (v := 2) hx hb dX6_maySet_1 (by decide) ?_
    refine lv_icmp_ge (tgt := 15) hx hb dX6_maySet_2 (by decide) (fun c2 => absurd c2 (by decide)) (fun c2 => ?_)
    refine lv_iload_n hx hb dX6_maySet_5 rfl (lv_at hl 1 rfl) ?_
    refine lv_iconst (v := 1) hx hb dX6_maySet_6 (by decide) ?_
    refine lv_bipush (v := 9) hx hb dX6_maySet_7 (by decide) ?_
    refine dp_Si hF hK hN (c_X6_in l D G x 1 9 _) (va_cwS 3 hts gX6_maySet_X6_in rfl rfl rfl (by decide +kernel) ⟨Nat.le_of_ble_eq_true rfl, Nat.le_of_ble_eq_true rfl⟩) hS nA_i [] rfl rfl hl.1 (Nat.le_of_ble_eq_true rfl) dX6_maySet_9 ⟨Nat.le_of_ble_eq_true rfl, Nat.le_of_ble_eq_true rfl⟩ (fun rH2 H2 locs hp hzH2 hkH2 hS => ?_)
    obtain ⟨rfl, rfl⟩ := hp
    refine lv_goto (tgt := 33) hx hb dX6_maySet_12 (by decide) ?_
    exact W.zret (ty := .boolean) hx hb hr (nz_n (by split; exact Or.inl rfl; split; exact Or.inl rfl; exact Or.inr rfl)) (fun t ht hW => ⟨⟨(if x < 1 then 0 else if 9 < x then 0 else 1), s.heap, rfl, ⟨rfl, rfl⟩, ht⟩, hS.F ht⟩) hS.2.2 dX6_maySet_33
  · refine lv_iload_n hx hb dX6_maySet_0 rfl (lv_at hl 0 rfl) ?_
    refine lv_iconst (v := 2) hx hb dX6_maySet_1 (by decide) ?_
    refine lv_icmp_ge (tgt := 15) hx hb dX6_maySet_2 (by decide) (fun c3 => ?_) (fun c3 => absurd (by decide) c3)
    refine lv_iload_n hx hb dX6_maySet_15 rfl (lv_at hl 1 rfl) ?_
    refine lv_iconst (v := 0) hx hb dX6_maySet_16 (by decide) ?_
    refine lv_iload_n hx hb dX6_maySet_17 rfl (lv_at hl 0 rfl) ?_
    refine lv_iconst (v := 2) hx hb dX6_maySet_18 (by decide) ?_
    refine lv_icmp_ne (tgt := 27) hx hb dX6_maySet_19 (by decide) (fun c4 => absurd c4 (by decide)) (fun c4 => ?_)
    refine lv_bipush (v := 50) hx hb dX6_maySet_22 (by decide) ?_
    refine lv_goto (tgt := 30) hx hb dX6_maySet_24 (by decide) ?_
    refine dp_Si hF hK hN (c_X6_in l D G x 0 50 _) (va_cwS 3 hts gX6_maySet_X6_in rfl rfl rfl (by decide +kernel) ⟨Nat.le_of_ble_eq_true rfl, Nat.le_of_ble_eq_true rfl⟩) hS nA_i [] rfl rfl hl.1 (Nat.le_of_ble_eq_true rfl) dX6_maySet_30 ⟨Nat.le_of_ble_eq_true rfl, Nat.le_of_ble_eq_true rfl⟩ (fun rH3 H3 locs hp hzH3 hkH3 hS => ?_)
    obtain ⟨rfl, rfl⟩ := hp
    exact W.zret (ty := .boolean) hx hb hr (nz_n (by split; exact Or.inl rfl; split; exact Or.inl rfl; exact Or.inr rfl)) (fun t ht hW => ⟨⟨(if x < 0 then 0 else if 50 < x then 0 else 1), s.heap, rfl, ⟨rfl, rfl⟩, ht⟩, hS.F ht⟩) hS.2.2 dX6_maySet_33
  · refine lv_iload_n hx hb dX6_maySet_0 rfl (lv_at hl 0 rfl) ?_
    refine lv_iconst (v := 2) hx hb dX6_maySet_1 (by decide) ?_
    refine lv_icmp_ge (tgt := 15) hx hb dX6_maySet_2 (by decide) (fun c5 => ?_) (fun c5 => absurd (by decide) c5)
    refine lv_iload_n hx hb dX6_maySet_15 rfl (lv_at hl 1 rfl) ?_
    refine lv_iconst (v := 0) hx hb dX6_maySet_16 (by decide) ?_
    refine lv_iload_n hx hb dX6_maySet_17 rfl (lv_at hl 0 rfl) ?_
    refine lv_iconst (v := 2) hx hb dX6_maySet_18 (by decide) ?_
    refine lv_icmp_ne (tgt := 27) hx hb dX6_maySet_19 (by decide) (fun c6 => ?_) (fun c6 => absurd c6 (by decide))
    refine lv_sipush (v := 200) hx hb dX6_maySet_27 (by decide) ?_
    refine dp_Si hF hK hN (c_X6_in l D G x 0 200 _) (va_cwS 3 hts gX6_maySet_X6_in rfl rfl rfl (by decide +kernel) ⟨Nat.le_of_ble_eq_true rfl, Nat.le_of_ble_eq_true rfl⟩) hS nA_i [] rfl rfl hl.1 (Nat.le_of_ble_eq_true rfl) dX6_maySet_30 ⟨Nat.le_of_ble_eq_true rfl, Nat.le_of_ble_eq_true rfl⟩ (fun rH4 H4 locs hp hzH4 hkH4 hS => ?_)
    obtain ⟨rfl, rfl⟩ := hp
    exact W.zret (ty := .boolean) hx hb hr (nz_n (by split; exact Or.inl rfl; split; exact Or.inl rfl; exact Or.inr rfl)) (fun t ht hW => ⟨⟨(if x < 0 then 0 else if 200 < x then 0 else 1), s.heap, rfl, ⟨rfl, rfl⟩, ht⟩, hS.F ht⟩) hS.2.2 dX6_maySet_33

set_option maxHeartbeats 600000 in
set_option maxRecDepth 100000 in
theorem c_X6_undo (l : Launch) (D : va_G) (G : Nat → ClassId) (μ : Nat → Nat) (R S N E P B L1 L2 L3 : Nat → Int32) (sm kp th la ln sp od : Int32) (hs : Int64) (n : Nat) (H : Heap) (hμ : inj 10 μ) (hM : MO D G μ R S N E P B L1 L2 L3 sm kp th la ln sp od hs H) (hsm : sm = nI n) (hn6 : n ≤ 6) : Met l yX6_undo wsX6_undo ({ frames := 1, cells := 0, slots := 0, locals := 21 } : Room) (va_Pc [.ref (μ 0)] (CX D G H)) (QI (A6 μ) (fun r h => (cUndo n = 0 ∧ nI (n - 1) = r ∧ MO D G μ (sxr S (n - 1)) S N E P B L1 L2 L3 (nI (n - 1)) kp 0 la ln sp od hs h) ∨ (¬ cUndo n = 0 ∧ MO D G μ R S N E P B L1 L2 L3 sm kp (cUndo n) la ln sp od hs h))) 0 0 (A6 μ) := by
  refine Met.ofW (cc := cX6_undo) (maxL := 2) (ret := (some .int)) (by decide) rfl ?_
  intro p e s m args below meth c s₁ B0 hml hv
  obtain ⟨rfl, rfl, hK, hN⟩ := hv
  have hx := B0.exec
  have hb := B0.bytes
  have hr := B0.returns
  have hts := atoms_spec (ws := wsX6_undo) B0.pre
  have hown : s.vm.findClass RX6 = some m.cls := findClass_of_methodNamed B0.named
  have hlocks := B0.notSynchronized
  have hF : CallFix p m c cX6_undo 2 s ([.ref (μ 0)] : List Value).toArray wsX6_undo RX6 := ⟨hx, hb, hml, hown, hts⟩
  have hS : va_S (A6 μ) s.heap s.heap [] := va_S.rf
  have hl := lv_entry ([.ref (μ 0)]) (n := 2) (Nat.le_of_ble_eq_true rfl)
  rw [lg_entry_eq]
  generalize (lg_sl ([.ref (μ 0)]) ++ List.replicate (2 - (lg_sl ([.ref (μ 0)])).length) Slot.unset).toArray = ls at hl ⊢
  have hl : lv_has ls 2 [(0, .ref (μ 0))] := hl
  refine lv_aload_n hx hb dX6_undo_0 rfl (lv_at hl 0 rfl) ?_
  refine lv_iconst (v := 0) hx hb dX6_undo_1 (by decide) ?_
  refine dp_put (A := A6 μ) (v := .int 0) hx hb hts (dp_hin 10 rfl) tyX6 tyX6_ok nmX6 hown hK hM.1 (⟨0, by decide, rfl⟩ : A6 μ (μ 0)) hS rfl 6 (by decide) (hts (.fieldLink RX6 41 "DroopBoardModel" "thrown" "I") (List.mem_of_getElem? (i := 1) rfl)) rfl rfl rfl (Nat.le_of_ble_eq_true rfl) dX6_undo_2 (fun H1 locs hH1 hzH1 hkH1 hS => ?_)
  have hM := hM.o (sm' := sm) (kp' := kp) (th' := 0) (la' := la) (ln' := ln) (sp' := sp) (od' := od) (hs' := hs) hμ hH1 hkH1
  refine lv_aload_n hx hb dX6_undo_5 rfl (lv_at hl 0 rfl) ?_
  refine dp_get hx hb hts (dp_hin 10 rfl) hown hK hM.1 rfl 2 (by decide) (hts (.fieldLink RX6 49 "DroopBoardModel" "savedMany" "I") (List.mem_of_getElem? (i := 2) rfl)) rfl dX6_undo_6 ?_
  refine lv_if_ne (tgt := 18) hx hb dX6_undo_9 (by decide) (fun c1 => ?_) (fun c1 => ?_)
  · have hn0 : ¬ n = 0 := fun q => c1 (by rw [hsm, q]; rfl)
    refine lv_aload_n hx hb dX6_undo_18 rfl (lv_at hl 0 rfl) ?_
    refine lv_dup hx hb dX6_undo_19 rfl ?_
    refine dp_get hx hb hts (dp_hin 10 rfl) hown hK hM.1 rfl 2 (by decide) (hts (.fieldLink RX6 49 "DroopBoardModel" "savedMany" "I") (List.mem_of_getElem? (i := 2) rfl)) rfl dX6_undo_20 ?_
    refine lv_iconst (v := 1) hx hb dX6_undo_23 (by decide) ?_
    refine lv_isub hx hb dX6_undo_24 ?_
    rw [show sm - 1 = nI (n - 1) by rw [hsm, show n = (n - 1) + 1 by omega, nI_pred]; rfl]
    refine dp_put (A := A6 μ) (v := .int (nI (n - 1))) hx hb hts (dp_hin 10 rfl) tyX6 tyX6_ok nmX6 hown hK hM.1 (⟨0, by decide, rfl⟩ : A6 μ (μ 0)) hS rfl 2 (by decide) (hts (.fieldLink RX6 49 "DroopBoardModel" "savedMany" "I") (List.mem_of_getElem? (i := 2) rfl)) rfl rfl rfl (Nat.le_of_ble_eq_true rfl) dX6_undo_25 (fun H2 locs hH2 hzH2 hkH2 hS => ?_)
    have hM := hM.o (sm' := (nI (n - 1))) (kp' := kp) (th' := 0) (la' := la) (ln' := ln) (sp' := sp) (od' := od) (hs' := hs) hμ hH2 hkH2
    refine lv_iconst (v := 0) hx hb dX6_undo_28 (by decide) ?_
    refine lv_istore_n (lv' := [(1, .int 0), (0, .ref (μ 0))]) hx hb dX6_undo_29 rfl hl (by decide) rfl (fun ls hl => ?_)
    have loop30 : ∀ (m9 : Nat) (k : Nat) (Hh : Heap) (_ : k + m9 = 50) (_ : MO D G μ (fst6 (sxr S (n - 1)) R k) S N E P B L1 L2 L3 (nI (n - 1)) kp 0 la ln sp od hs Hh) (locs : List Loc) (_ : va_S (A6 μ) s.heap Hh locs) (ls : Array Slot) (_ : lv_has ls 2 [(0, .ref (μ 0)), (1, .int (nI k))]), W p l e (headSpec wsX6_undo ({ frames := 1, cells := 0, slots := 0, locals := 21 } : Room)).room s m ([.ref (μ 0)] : List Value).toArray below meth c Hh locs 0 0 (MQ below (QI (A6 μ) (fun r h => (cUndo n = 0 ∧ nI (n - 1) = r ∧ MO D G μ (sxr S (n - 1)) S N E P B L1 L2 L3 (nI (n - 1)) kp 0 la ln sp od hs h) ∨ (¬ cUndo n = 0 ∧ MO D G μ R S N E P B L1 L2 L3 sm kp (cUndo n) la ln sp od hs h))) ([.ref (μ 0)] : List Value).toArray s 0 0 (A6 μ)) (F0 m 30 ls []) := by
      intro m9
      induction m9 with
      | zero =>
        intro k Hh hin hM locs hS ls hl
        have hM := mo_congR hM (fun j hj => fst6_e (show j < k by omega))
        refine lv_iload_n hx hb dX6_undo_30 rfl (lv_at hl 1 rfl) ?_
        refine lv_bipush (v := 50) hx hb dX6_undo_31 (by decide) ?_
        refine lv_icmp_ge (tgt := 62) hx hb dX6_undo_33 (by decide) (fun c2 => ?_) (fun c2 => absurd (nI_le (a := 50) (b := k) (by omega) (by omega)) c2)
        refine lv_aload_n hx hb dX6_undo_62 rfl (lv_at hl 0 rfl) ?_
        refine dp_get hx hb hts (dp_hin 10 rfl) hown hK hM.1 rfl 2 (by decide) (hts (.fieldLink RX6 49 "DroopBoardModel" "savedMany" "I") (List.mem_of_getElem? (i := 2) rfl)) rfl dX6_undo_63 ?_
        exact W.iret hx hb hr (fun t ht hW => ⟨⟨nI (n - 1), Hh, rfl, Or.inl ⟨by rw [cUndo, if_neg hn0], rfl, hM⟩, ht⟩, hS.F ht⟩) hS.2.2 dX6_undo_66
      | succ m9 ih30 =>
        intro k Hh hin hM locs hS ls hl
        refine lv_iload_n hx hb dX6_undo_30 rfl (lv_at hl 1 rfl) ?_
        refine lv_bipush (v := 50) hx hb dX6_undo_31 (by decide) ?_
        refine lv_icmp_ge (tgt := 62) hx hb dX6_undo_33 (by decide) (fun c3 => absurd c3 (nI_ge (a := k) (b := 50) (by omega) (by omega))) (fun c3 => ?_)
        refine lv_aload_n hx hb dX6_undo_36 rfl (lv_at hl 0 rfl) ?_
        refine dp_get hx hb hts (dp_hin 10 rfl) hown hK hM.1 rfl 0 (by decide) (hts (.fieldLink RX6 7 "DroopBoardModel" "row" "[I") (List.mem_of_getElem? (i := 3) rfl)) rfl dX6_undo_37 ?_
        refine lv_iload_n hx hb dX6_undo_40 rfl (lv_at hl 1 rfl) ?_
        refine lv_aload_n hx hb dX6_undo_41 rfl (lv_at hl 0 rfl) ?_
        refine dp_get hx hb hts (dp_hin 10 rfl) hown hK hM.1 rfl 1 (by decide) (hts (.fieldLink RX6 13 "DroopBoardModel" "saved" "[I") (List.mem_of_getElem? (i := 4) rfl)) rfl dX6_undo_42 ?_
        refine lv_bipush (v := 50) hx hb dX6_undo_45 (by decide) ?_
        refine lv_aload_n hx hb dX6_undo_47 rfl (lv_at hl 0 rfl) ?_
        refine dp_get hx hb hts (dp_hin 10 rfl) hown hK hM.1 rfl 2 (by decide) (hts (.fieldLink RX6 49 "DroopBoardModel" "savedMany" "I") (List.mem_of_getElem? (i := 2) rfl)) rfl dX6_undo_48 ?_
        refine lv_imul hx hb dX6_undo_51 ?_
        refine lv_iload_n hx hb dX6_undo_52 rfl (lv_at hl 1 rfl) ?_
        refine lv_iadd hx hb dX6_undo_53 ?_
        rw [mI_sv (n := n - 1) (k := k)]
        refine dp_iald hx hb hK hM.2.2.1 0 rfl ((50 * (n - 1) + k)) rfl (by omega) (by decide) dX6_undo_54 ?_
        refine dp_iast (A := A6 μ) hx hb hK hM.2.1 (⟨1, by decide, rfl⟩ : A6 μ (μ 1)) hS 0 rfl k rfl (by omega) (by decide) dX6_undo_55 (fun H3 locs hH3 hzH3 hkH3 hS => ?_)
        have hM := hM.a1 (X' := upd (fst6 (sxr S (n - 1)) R k) k (S ((50 * (n - 1) + k)))) hμ hH3 hkH3
        refine lv_iinc (v := nI (k + 1)) (lv' := [(1, .int (nI (k + 1))), (0, .ref (μ 0))]) hx hb dX6_undo_56 hl (k := 1) rfl (nI_1 k) (by decide) rfl (fun ls hl => ?_)
        refine lv_goto (tgt := 30) hx hb dX6_undo_59 (by decide) ?_
        exact ih30 (k + 1) H3 (by omega) (by rw [← fst6_s]; exact hM) _ hS _ (lv_sub hl [1, 0] rfl)
    exact loop30 50 0 H2 rfl (by rw [fst6_0]; exact hM) _ hS _ (lv_sub hl [1, 0] rfl)
  refine lv_aload_n hx hb dX6_undo_12 rfl (lv_at hl 0 rfl) ?_
  refine lv_iconst (v := 1) hx hb dX6_undo_13 (by decide) ?_
  refine dp_Vi hF hK hN (c_X6_fails l D G μ R S N E P B L1 L2 L3 sm kp 0 la ln sp od hs 1 _ hμ hM ) (cwV 1 hts gX6_undo_X6_fails rfl rfl rfl (by decide +kernel) ⟨Nat.le_of_ble_eq_true rfl, Nat.le_of_ble_eq_true rfl⟩) (dp_recv hK hM.1 rfl) hS (fun q hq => hq) [] rfl rfl hl.1 (Nat.le_of_ble_eq_true rfl) dX6_undo_14 ⟨Nat.le_of_ble_eq_true rfl, Nat.le_of_ble_eq_true rfl⟩ (fun rH4 H4 locs hp hzH4 hkH4 hS => ?_)
  obtain ⟨rfl, hM⟩ := hp
  exact W.iret hx hb hr (fun t ht hW => ⟨⟨0, H4, rfl, Or.inr ⟨by rw [show cUndo n = 1 by rw [cUndo, if_pos ((nI_z (by omega)).mp (hsm.symm.trans c1))]]; decide, by rw [show cUndo n = 1 by rw [cUndo, if_pos ((nI_z (by omega)).mp (hsm.symm.trans c1))]]; exact hM⟩, ht⟩, hS.F ht⟩) hS.2.2 dX6_undo_17

set_option maxHeartbeats 600000 in
set_option maxRecDepth 100000 in
theorem c_X6_goBack (l : Launch) (D : va_G) (G : Nat → ClassId) (μ : Nat → Nat) (R S N E P B L1 L2 L3 : Nat → Int32) (sm kp th la ln sp od : Int32) (hs : Int64) (n : Nat) (H : Heap) (hμ : inj 10 μ) (hM : MO D G μ R S N E P B L1 L2 L3 sm kp th la ln sp od hs H) (hsm : sm = nI n) (hn6 : n ≤ 6) : Met l yX6_goBack wsX6_goBack ({ frames := 1, cells := 0, slots := 0, locals := 21 } : Room) (va_Pc [.ref (μ 0)] (CX D G H)) (QI (A6 μ) (fun r h => (cBack kp = 0 ∧ N 4 = r ∧ MO D G μ N (msv S R n) N E P B L1 L2 L3 (nI (svn n)) kp 0 la ln sp od hs h) ∨ (¬ cBack kp = 0 ∧ MO D G μ R S N E P B L1 L2 L3 sm kp (cBack kp) la ln sp od hs h))) 0 0 (A6 μ) := by
  refine Met.ofW (cc := cX6_goBack) (maxL := 2) (ret := (some .int)) (by decide) rfl ?_
  intro p e s m args below meth c s₁ B0 hml hv
  obtain ⟨rfl, rfl, hK, hN⟩ := hv
  have hx := B0.exec
  have hb := B0.bytes
  have hr := B0.returns
  have hts := atoms_spec (ws := wsX6_goBack) B0.pre
  have hown : s.vm.findClass RX6 = some m.cls := findClass_of_methodNamed B0.named
  have hlocks := B0.notSynchronized
  have hF : CallFix p m c cX6_goBack 2 s ([.ref (μ 0)] : List Value).toArray wsX6_goBack RX6 := ⟨hx, hb, hml, hown, hts⟩
  have hS : va_S (A6 μ) s.heap s.heap [] := va_S.rf
  have hl := lv_entry ([.ref (μ 0)]) (n := 2) (Nat.le_of_ble_eq_true rfl)
  rw [lg_entry_eq]
  generalize (lg_sl ([.ref (μ 0)]) ++ List.replicate (2 - (lg_sl ([.ref (μ 0)])).length) Slot.unset).toArray = ls at hl ⊢
  have hl : lv_has ls 2 [(0, .ref (μ 0))] := hl
  refine lv_aload_n hx hb dX6_goBack_0 rfl (lv_at hl 0 rfl) ?_
  refine lv_iconst (v := 0) hx hb dX6_goBack_1 (by decide) ?_
  refine dp_put (A := A6 μ) (v := .int 0) hx hb hts (dp_hin 16 rfl) tyX6 tyX6_ok nmX6 hown hK hM.1 (⟨0, by decide, rfl⟩ : A6 μ (μ 0)) hS rfl 6 (by decide) (hts (.fieldLink RX6 41 "DroopBoardModel" "thrown" "I") (List.mem_of_getElem? (i := 1) rfl)) rfl rfl rfl (Nat.le_of_ble_eq_true rfl) dX6_goBack_2 (fun H1 locs hH1 hzH1 hkH1 hS => ?_)
  have hM := hM.o (sm' := sm) (kp' := kp) (th' := 0) (la' := la) (ln' := ln) (sp' := sp) (od' := od) (hs' := hs) hμ hH1 hkH1
  refine lv_aload_n hx hb dX6_goBack_5 rfl (lv_at hl 0 rfl) ?_
  refine dp_get hx hb hts (dp_hin 16 rfl) hown hK hM.1 rfl 4 (by decide) (hts (.fieldLink RX6 189 "DroopBoardModel" "isKept" "Z") (List.mem_of_getElem? (i := 2) rfl)) rfl dX6_goBack_6 ?_
  refine lv_if_ne (tgt := 18) hx hb dX6_goBack_9 (by decide) (fun c1 => ?_) (fun c1 => ?_)
  · refine lv_aload_n hx hb dX6_goBack_18 rfl (lv_at hl 0 rfl) ?_
    refine dp_Vv hF hK hN (c_X6_save l D G μ R S N E P B L1 L2 L3 sm kp 0 la ln sp od hs n _ hμ hM hsm hn6) (cwV 0 hts gX6_goBack_X6_save rfl rfl rfl (by decide +kernel) ⟨Nat.le_of_ble_eq_true rfl, Nat.le_of_ble_eq_true rfl⟩) (dp_recv hK hM.1 rfl) hS (fun q hq => hq) [] rfl rfl hl.1 (Nat.le_of_ble_eq_true rfl) dX6_goBack_19 ⟨Nat.le_of_ble_eq_true rfl, Nat.le_of_ble_eq_true rfl⟩ (fun H2 locs hp hzH2 hkH2 hS => ?_)
    have hM := hp
    refine lv_iconst (v := 0) hx hb dX6_goBack_22 (by decide) ?_
    refine lv_istore_n (lv' := [(1, .int 0), (0, .ref (μ 0))]) hx hb dX6_goBack_23 rfl hl (by decide) rfl (fun ls hl => ?_)
    have loop24 : ∀ (m9 : Nat) (k : Nat) (Hh : Heap) (_ : k + m9 = 50) (_ : MO D G μ (fst6 N R k) (msv S R n) N E P B L1 L2 L3 (nI (svn n)) kp 0 la ln sp od hs Hh) (locs : List Loc) (_ : va_S (A6 μ) s.heap Hh locs) (ls : Array Slot) (_ : lv_has ls 2 [(0, .ref (μ 0)), (1, .int (nI k))]), W p l e (headSpec wsX6_goBack ({ frames := 1, cells := 0, slots := 0, locals := 21 } : Room)).room s m ([.ref (μ 0)] : List Value).toArray below meth c Hh locs 0 0 (MQ below (QI (A6 μ) (fun r h => (cBack kp = 0 ∧ N 4 = r ∧ MO D G μ N (msv S R n) N E P B L1 L2 L3 (nI (svn n)) kp 0 la ln sp od hs h) ∨ (¬ cBack kp = 0 ∧ MO D G μ R S N E P B L1 L2 L3 sm kp (cBack kp) la ln sp od hs h))) ([.ref (μ 0)] : List Value).toArray s 0 0 (A6 μ)) (F0 m 24 ls []) := by
      intro m9
      induction m9 with
      | zero =>
        intro k Hh hin hM locs hS ls hl
        have hM := mo_congR hM (fun j hj => fst6_e (show j < k by omega))
        refine lv_iload_n hx hb dX6_goBack_24 rfl (lv_at hl 1 rfl) ?_
        refine lv_bipush (v := 50) hx hb dX6_goBack_25 (by decide) ?_
        refine lv_icmp_ge (tgt := 48) hx hb dX6_goBack_27 (by decide) (fun c2 => ?_) (fun c2 => absurd (nI_le (a := 50) (b := k) (by omega) (by omega)) c2)
        refine lv_aload_n hx hb dX6_goBack_48 rfl (lv_at hl 0 rfl) ?_
        refine dp_get hx hb hts (dp_hin 16 rfl) hown hK hM.1 rfl 0 (by decide) (hts (.fieldLink RX6 7 "DroopBoardModel" "row" "[I") (List.mem_of_getElem? (i := 3) rfl)) rfl dX6_goBack_49 ?_
        refine lv_iconst (v := 4) hx hb dX6_goBack_52 (by decide) ?_
        refine dp_iald hx hb hK hM.2.1 0 rfl 4 rfl (by decide) (by decide) dX6_goBack_53 ?_
        exact W.iret hx hb hr (fun t ht hW => ⟨⟨N 4, Hh, rfl, Or.inl ⟨by rw [cBack, if_neg c1], rfl, hM⟩, ht⟩, hS.F ht⟩) hS.2.2 dX6_goBack_54
      | succ m9 ih24 =>
        intro k Hh hin hM locs hS ls hl
        refine lv_iload_n hx hb dX6_goBack_24 rfl (lv_at hl 1 rfl) ?_
        refine lv_bipush (v := 50) hx hb dX6_goBack_25 (by decide) ?_
        refine lv_icmp_ge (tgt := 48) hx hb dX6_goBack_27 (by decide) (fun c3 => absurd c3 (nI_ge (a := k) (b := 50) (by omega) (by omega))) (fun c3 => ?_)
        refine lv_aload_n hx hb dX6_goBack_30 rfl (lv_at hl 0 rfl) ?_
        refine dp_get hx hb hts (dp_hin 16 rfl) hown hK hM.1 rfl 0 (by decide) (hts (.fieldLink RX6 7 "DroopBoardModel" "row" "[I") (List.mem_of_getElem? (i := 3) rfl)) rfl dX6_goBack_31 ?_
        refine lv_iload_n hx hb dX6_goBack_34 rfl (lv_at hl 1 rfl) ?_
        refine lv_aload_n hx hb dX6_goBack_35 rfl (lv_at hl 0 rfl) ?_
        refine dp_get hx hb hts (dp_hin 16 rfl) hown hK hM.1 rfl 3 (by decide) (hts (.fieldLink RX6 16 "DroopBoardModel" "snapshot" "[I") (List.mem_of_getElem? (i := 4) rfl)) rfl dX6_goBack_36 ?_
        refine lv_iload_n hx hb dX6_goBack_39 rfl (lv_at hl 1 rfl) ?_
        refine dp_iald hx hb hK hM.2.2.2.1 0 rfl k rfl (by omega) (by decide) dX6_goBack_40 ?_
        refine dp_iast (A := A6 μ) hx hb hK hM.2.1 (⟨1, by decide, rfl⟩ : A6 μ (μ 1)) hS 0 rfl k rfl (by omega) (by decide) dX6_goBack_41 (fun H3 locs hH3 hzH3 hkH3 hS => ?_)
        have hM := hM.a1 (X' := upd (fst6 N R k) k (N k)) hμ hH3 hkH3
        refine lv_iinc (v := nI (k + 1)) (lv' := [(1, .int (nI (k + 1))), (0, .ref (μ 0))]) hx hb dX6_goBack_42 hl (k := 1) rfl (nI_1 k) (by decide) rfl (fun ls hl => ?_)
        refine lv_goto (tgt := 24) hx hb dX6_goBack_45 (by decide) ?_
        exact ih24 (k + 1) H3 (by omega) (by rw [← fst6_s]; exact hM) _ hS _ (lv_sub hl [1, 0] rfl)
    exact loop24 50 0 H2 rfl (by rw [fst6_0]; exact hM) _ hS _ (lv_sub hl [1, 0] rfl)
  refine lv_aload_n hx hb dX6_goBack_12 rfl (lv_at hl 0 rfl) ?_
  refine lv_iconst (v := 1) hx hb dX6_goBack_13 (by decide) ?_
  refine dp_Vi hF hK hN (c_X6_fails l D G μ R S N E P B L1 L2 L3 sm kp 0 la ln sp od hs 1 _ hμ hM ) (cwV 1 hts gX6_goBack_X6_fails rfl rfl rfl (by decide +kernel) ⟨Nat.le_of_ble_eq_true rfl, Nat.le_of_ble_eq_true rfl⟩) (dp_recv hK hM.1 rfl) hS (fun q hq => hq) [] rfl rfl hl.1 (Nat.le_of_ble_eq_true rfl) dX6_goBack_14 ⟨Nat.le_of_ble_eq_true rfl, Nat.le_of_ble_eq_true rfl⟩ (fun rH4 H4 locs hp hzH4 hkH4 hS => ?_)
  obtain ⟨rfl, hM⟩ := hp
  exact W.iret hx hb hr (fun t ht hW => ⟨⟨0, H4, rfl, Or.inr ⟨by rw [show cBack kp = 1 by rw [cBack, if_pos c1]]; decide, by rw [show cBack kp = 1 by rw [cBack, if_pos c1]]; exact hM⟩, ht⟩, hS.F ht⟩) hS.2.2 dX6_goBack_17

set_option maxHeartbeats 600000 in
set_option maxRecDepth 100000 in
theorem c_X6_digest (l : Launch) (D : va_G) (G : Nat → ClassId) (μ : Nat → Nat) (R S N E P B L1 L2 L3 : Nat → Int32) (sm kp th la ln sp od : Int32) (hs : Int64) (n len : Nat) (H : Heap) (hμ : inj 10 μ) (hM : MO D G μ R S N E P B L1 L2 L3 sm kp th la ln sp od hs H) (hg : gd R) (hsm : sm = nI n) (hln : ln = nI len) (hl6 : len ≤ 60) (hokF : okF (mnpw R)) (hfdF : ¬ R 4 = 0 → vf_n32 (FP.fdiv (FP.i2f (R 7)) (FP.i2f (R 4)))) : Met l yX6_digest wsX6_digest ({ frames := 10, cells := 0, slots := 0, locals := 226 } : Room) (va_Pc [.ref (μ 0)] (CX D G H)) (QL (A6 μ) (fun r h => dig R kp n B len 3701 = r ∧ MP D G μ R S N R B L1 L2 L3 sm kp 0 ln sp od (dig R kp n B len 3701) h)) 0 0 (A6 μ) := by
  refine Met.ofW (cc := cX6_digest) (maxL := 2) (ret := (some .long)) (by decide) rfl ?_
  intro p e s m args below meth c s₁ B0 hml hv
  obtain ⟨rfl, rfl, hK, hN⟩ := hv
  have hx := B0.exec
  have hb := B0.bytes
  have hr := B0.returns
  have hts := atoms_spec (ws := wsX6_digest) B0.pre
  have hown : s.vm.findClass RX6 = some m.cls := findClass_of_methodNamed B0.named
  have hlocks := B0.notSynchronized
  have hF : CallFix p m c cX6_digest 2 s ([.ref (μ 0)] : List Value).toArray wsX6_digest RX6 := ⟨hx, hb, hml, hown, hts⟩
  have hS : va_S (A6 μ) s.heap s.heap [] := va_S.rf
  have hl := lv_entry ([.ref (μ 0)]) (n := 2) (Nat.le_of_ble_eq_true rfl)
  rw [lg_entry_eq]
  generalize (lg_sl ([.ref (μ 0)]) ++ List.replicate (2 - (lg_sl ([.ref (μ 0)])).length) Slot.unset).toArray = ls at hl ⊢
  have hl : lv_has ls 2 [(0, .ref (μ 0))] := hl
  have hwz := gd_wz hg
  have h5 := hg.2.2.2.1
  have h6 := hg.2.2.2.2
  refine lv_aload_n hx hb dX6_digest_0 rfl (lv_at hl 0 rfl) ?_
  refine lv_iconst (v := 0) hx hb dX6_digest_1 (by decide) ?_
  refine dp_put (A := A6 μ) (v := .int 0) hx hb hts (dp_hin 180 rfl) tyX6 tyX6_ok nmX6 hown hK hM.1 (⟨0, by decide, rfl⟩ : A6 μ (μ 0)) hS rfl 6 (by decide) (hts (.fieldLink RX6 41 "DroopBoardModel" "thrown" "I") (List.mem_of_getElem? (i := 1) rfl)) rfl rfl rfl (Nat.le_of_ble_eq_true rfl) dX6_digest_2 (fun H1 locs hH1 hzH1 hkH1 hS => ?_)
  have hM := hM.o (sm' := sm) (kp' := kp) (th' := 0) (la' := la) (ln' := ln) (sp' := sp) (od' := od) (hs' := hs) hμ hH1 hkH1
  refine lv_aload_n hx hb dX6_digest_5 rfl (lv_at hl 0 rfl) ?_
  refine lv_ldc2 (v := (3701)) hx hb hown (hts (.constantLong RX6 248 (3701)) (List.mem_of_getElem? (i := 2) rfl)) dX6_digest_6 ?_
  refine dp_put (A := A6 μ) (v := .long 3701) hx hb hts (dp_hin 180 rfl) tyX6 tyX6_ok nmX6 hown hK hM.1 (⟨0, by decide, rfl⟩ : A6 μ (μ 0)) hS rfl 16 (by decide) (hts (.fieldLink RX6 240 "DroopBoardModel" "hash" "J") (List.mem_of_getElem? (i := 3) rfl)) rfl rfl rfl (Nat.le_of_ble_eq_true rfl) dX6_digest_9 (fun H2 locs hH2 hzH2 hkH2 hS => ?_)
  have hM := hM.o (sm' := sm) (kp' := kp) (th' := 0) (la' := la) (ln' := ln) (sp' := sp) (od' := od) (hs' := 3701) hμ hH2 hkH2
  refine lv_iconst (v := 0) hx hb dX6_digest_12 (by decide) ?_
  refine lv_istore_n (lv' := [(1, .int 0), (0, .ref (μ 0))]) hx hb dX6_digest_13 rfl hl (by decide) rfl (fun ls hl => ?_)
  have loop14 : ∀ (m9 : Nat) (i1 : Nat) (Hh : Heap) (_ : i1 + m9 = 12) (_ : MP D G μ R S N E B L1 L2 L3 sm kp 0 ln sp od (fo (fun k => tcnt R n (nI k)) i1 3701) Hh) (locs : List Loc) (_ : va_S (A6 μ) s.heap Hh locs) (ls : Array Slot) (_ : lv_has ls 2 [(0, .ref (μ 0)), (1, .int (nI i1))]), W p l e (headSpec wsX6_digest ({ frames := 10, cells := 0, slots := 0, locals := 226 } : Room)).room s m ([.ref (μ 0)] : List Value).toArray below meth c Hh locs 0 0 (MQ below (QL (A6 μ) (fun r h => dig R kp n B len 3701 = r ∧ MP D G μ R S N R B L1 L2 L3 sm kp 0 ln sp od (dig R kp n B len 3701) h)) ([.ref (μ 0)] : List Value).toArray s 0 0 (A6 μ)) (F0 m 14 ls []) := by
    intro m9
    induction m9 with
    | zero =>
      intro i1 Hh hini1 hMPi1 locs hS ls hl
      obtain ⟨P, la, hM⟩ := hMPi1
      obtain rfl : i1 = 12 := by omega
      refine lv_iload_n hx hb dX6_digest_14 rfl (lv_at hl 1 rfl) ?_
      refine lv_bipush (v := 12) hx hb dX6_digest_15 (by decide) ?_
      refine lv_icmp_ge (tgt := 36) hx hb dX6_digest_17 (by decide) (fun c1 => ?_) (fun c1 => absurd (nI_le (a := 12) (b := 12) (by omega) (by omega)) c1)
      refine lv_iconst (v := 0) hx hb dX6_digest_36 (by decide) ?_
      refine lv_istore_n (lv' := [(1, .int 0), (0, .ref (μ 0))]) hx hb dX6_digest_37 rfl hl (by decide) rfl (fun ls hl => ?_)
      have loop38 : ∀ (m9 : Nat) (i2 : Nat) (Hh : Heap) (_ : i2 + m9 = 4) (_ : MP D G μ R S N E B L1 L2 L3 sm kp 0 ln sp od (fo (fun k => R k) i2 (fo (fun k => tcnt R n (nI k)) 12 3701)) Hh) (locs : List Loc) (_ : va_S (A6 μ) s.heap Hh locs) (ls : Array Slot) (_ : lv_has ls 2 [(0, .ref (μ 0)), (1, .int (nI i2))]), W p l e (headSpec wsX6_digest ({ frames := 10, cells := 0, slots := 0, locals := 226 } : Room)).room s m ([.ref (μ 0)] : List Value).toArray below meth c Hh locs 0 0 (MQ below (QL (A6 μ) (fun r h => dig R kp n B len 3701 = r ∧ MP D G μ R S N R B L1 L2 L3 sm kp 0 ln sp od (dig R kp n B len 3701) h)) ([.ref (μ 0)] : List Value).toArray s 0 0 (A6 μ)) (F0 m 38 ls []) := by
        intro m9
        induction m9 with
        | zero =>
          intro i2 Hh hini2 hMPi2 locs hS ls hl
          obtain ⟨P, la, hM⟩ := hMPi2
          obtain rfl : i2 = 4 := by omega
          refine lv_iload_n hx hb dX6_digest_38 rfl (lv_at hl 1 rfl) ?_
          refine lv_iconst (v := 4) hx hb dX6_digest_39 (by decide) ?_
          refine lv_icmp_ge (tgt := 60) hx hb dX6_digest_40 (by decide) (fun c2 => ?_) (fun c2 => absurd (nI_le (a := 4) (b := 4) (by omega) (by omega)) c2)
          refine lv_iconst (v := 0) hx hb dX6_digest_60 (by decide) ?_
          refine lv_istore_n (lv' := [(1, .int 0), (0, .ref (μ 0))]) hx hb dX6_digest_61 rfl hl (by decide) rfl (fun ls hl => ?_)
          have loop62 : ∀ (m9 : Nat) (i3 : Nat) (E9 : Nat → Int32) (Hh : Heap) (_ : i3 + m9 = 3) (_ : MP D G μ R S N E9 B L1 L2 L3 sm kp 0 ln sp od (fom R i3 (fo (fun k => R k) 4 (fo (fun k => tcnt R n (nI k)) 12 3701))) Hh) (locs : List Loc) (_ : va_S (A6 μ) s.heap Hh locs) (ls : Array Slot) (_ : lv_has ls 2 [(0, .ref (μ 0)), (1, .int (nI i3))]), W p l e (headSpec wsX6_digest ({ frames := 10, cells := 0, slots := 0, locals := 226 } : Room)).room s m ([.ref (μ 0)] : List Value).toArray below meth c Hh locs 0 0 (MQ below (QL (A6 μ) (fun r h => dig R kp n B len 3701 = r ∧ MP D G μ R S N R B L1 L2 L3 sm kp 0 ln sp od (dig R kp n B len 3701) h)) ([.ref (μ 0)] : List Value).toArray s 0 0 (A6 μ)) (F0 m 62 ls []) := by
            intro m9
            induction m9 with
            | zero =>
              intro i3 E9 Hh hini3 hMPi3 locs hS ls hl
              obtain ⟨P, la, hM⟩ := hMPi3
              obtain rfl : i3 = 3 := by omega
              refine lv_iload_n hx hb dX6_digest_62 rfl (lv_at hl 1 rfl) ?_
              refine lv_iconst (v := 3) hx hb dX6_digest_63 (by decide) ?_
              refine lv_icmp_ge (tgt := 78) hx hb dX6_digest_64 (by decide) (fun c3 => ?_) (fun c3 => absurd (nI_le (a := 3) (b := 3) (by omega) (by omega)) c3)
              refine lv_iconst (v := 0) hx hb dX6_digest_78 (by decide) ?_
              refine lv_istore_n (lv' := [(1, .int 0), (0, .ref (μ 0))]) hx hb dX6_digest_79 rfl hl (by decide) rfl (fun ls hl => ?_)
              have loop80 : ∀ (m9 : Nat) (i4 : Nat) (Hh : Heap) (_ : i4 + m9 = 12) (_ : MP D G μ R S N E9 B L1 L2 L3 sm kp 0 ln sp od (fo (fun k => R (38 + k)) i4 (fom R 3 (fo (fun k => R k) 4 (fo (fun k => tcnt R n (nI k)) 12 3701)))) Hh) (locs : List Loc) (_ : va_S (A6 μ) s.heap Hh locs) (ls : Array Slot) (_ : lv_has ls 2 [(0, .ref (μ 0)), (1, .int (nI i4))]), W p l e (headSpec wsX6_digest ({ frames := 10, cells := 0, slots := 0, locals := 226 } : Room)).room s m ([.ref (μ 0)] : List Value).toArray below meth c Hh locs 0 0 (MQ below (QL (A6 μ) (fun r h => dig R kp n B len 3701 = r ∧ MP D G μ R S N R B L1 L2 L3 sm kp 0 ln sp od (dig R kp n B len 3701) h)) ([.ref (μ 0)] : List Value).toArray s 0 0 (A6 μ)) (F0 m 80 ls []) := by
                intro m9
                induction m9 with
                | zero =>
                  intro i4 Hh hini4 hMPi4 locs hS ls hl
                  obtain ⟨P, la, hM⟩ := hMPi4
                  obtain rfl : i4 = 12 := by omega
                  refine lv_iload_n hx hb dX6_digest_80 rfl (lv_at hl 1 rfl) ?_
                  refine lv_bipush (v := 12) hx hb dX6_digest_81 (by decide) ?_
                  refine lv_icmp_ge (tgt := 106) hx hb dX6_digest_83 (by decide) (fun c4 => ?_) (fun c4 => absurd (nI_le (a := 12) (b := 12) (by omega) (by omega)) c4)
                  refine lv_aload_n hx hb dX6_digest_106 rfl (lv_at hl 0 rfl) ?_
                  refine lv_aload_n hx hb dX6_digest_107 rfl (lv_at hl 0 rfl) ?_
                  refine dp_Vi hF hK hN (c_X6_tripIn l D G μ R S N E9 P B L1 L2 L3 sm kp 0 la ln sp od (fo (fun k => R (38 + k)) 12 (fom R 3 (fo (fun k => R k) 4 (fo (fun k => tcnt R n (nI k)) 12 3701))))  _ hμ hM (fun i _ => gd_htk hg i)) (cwV 0 hts gX6_digest_X6_tripIn rfl rfl rfl (by decide +kernel) ⟨Nat.le_of_ble_eq_true rfl, Nat.le_of_ble_eq_true rfl⟩) (dp_recv hK hM.1 rfl) hS (fun q hq => hq) [.ref (μ 0)] rfl rfl hl.1 (Nat.le_of_ble_eq_true rfl) dX6_digest_108 ⟨Nat.le_of_ble_eq_true rfl, Nat.le_of_ble_eq_true rfl⟩ (fun rH3 H3 locs hp hzH3 hkH3 hS => ?_)
                  obtain ⟨rfl, P, la, hM⟩ := hp
                  refine lv_i2l hx hb dX6_digest_111 rfl ?_
                  refine dp_Vv hF hK hN (c_X6_mix l D G μ R S N R P B L1 L2 L3 sm kp 0 la ln sp od (fo (fun k => R (38 + k)) 12 (fom R 3 (fo (fun k => R k) 4 (fo (fun k => tcnt R n (nI k)) 12 3701)))) (Int32.toInt64 (ntp R)) _ hμ hM ) (cwV 1 hts gX6_digest_X6_mix rfl rfl rfl (by decide +kernel) ⟨Nat.le_of_ble_eq_true rfl, Nat.le_of_ble_eq_true rfl⟩) (dp_recv hK hM.1 rfl) hS (fun q hq => hq) [] rfl rfl hl.1 (Nat.le_of_ble_eq_true rfl) dX6_digest_112 ⟨Nat.le_of_ble_eq_true rfl, Nat.le_of_ble_eq_true rfl⟩ (fun H4 locs hp hzH4 hkH4 hS => ?_)
                  have hM := hp
                  refine lv_aload_n hx hb dX6_digest_115 rfl (lv_at hl 0 rfl) ?_
                  refine lv_aload_n hx hb dX6_digest_116 rfl (lv_at hl 0 rfl) ?_
                  refine dp_Vd hF hK hN (c_X6_share l D G μ R S N R P B L1 L2 L3 sm kp 0 la ln sp od (31 * (fo (fun k => R (38 + k)) 12 (fom R 3 (fo (fun k => R k) 4 (fo (fun k => tcnt R n (nI k)) 12 3701)))) + (Int32.toInt64 (ntp R)))  _ hμ hM hwz (rat_al hg) (gd_fd hg)) (cwV 0 hts gX6_digest_X6_share rfl rfl rfl (by decide +kernel) ⟨Nat.le_of_ble_eq_true rfl, Nat.le_of_ble_eq_true rfl⟩) (dp_recv hK hM.1 rfl) hS nA_i [.ref (μ 0)] rfl rfl hl.1 (Nat.le_of_ble_eq_true rfl) dX6_digest_117 ⟨Nat.le_of_ble_eq_true rfl, Nat.le_of_ble_eq_true rfl⟩ (fun rH5 H5 locs hp hzH5 hkH5 hS => ?_)
                  obtain ⟨rfl, rfl⟩ := hp
                  refine dp_Sl hF hK hN (c_Jxe99ae_doubleToLongBits_ccdee l D G (ldsh R) _ (okD_c (gd_okD hg))) (va_cwS 1 hts gX6_digest_Jxe99ae_doubleToLongBits_ccdee rfl rfl rfl (by decide +kernel) ⟨Nat.le_of_ble_eq_true rfl, Nat.le_of_ble_eq_true rfl⟩) hS nA_i [.ref (μ 0)] rfl rfl hl.1 (Nat.le_of_ble_eq_true rfl) dX6_digest_120 ⟨Nat.le_of_ble_eq_true rfl, Nat.le_of_ble_eq_true rfl⟩ (fun rH6 H6 locs hp hzH6 hkH6 hS => ?_)
                  obtain ⟨rfl, rfl⟩ := hp
                  refine dp_Vv hF hK hN (c_X6_mix l D G μ R S N R P B L1 L2 L3 sm kp 0 la ln sp od (31 * (fo (fun k => R (38 + k)) 12 (fom R 3 (fo (fun k => R k) 4 (fo (fun k => tcnt R n (nI k)) 12 3701)))) + (Int32.toInt64 (ntp R))) ((ldsh R).toInt64) _ hμ hM ) (cwV 1 hts gX6_digest_X6_mix rfl rfl rfl (by decide +kernel) ⟨Nat.le_of_ble_eq_true rfl, Nat.le_of_ble_eq_true rfl⟩) (dp_recv hK hM.1 rfl) hS (fun q hq => hq) [] rfl rfl hl.1 (Nat.le_of_ble_eq_true rfl) dX6_digest_123 ⟨Nat.le_of_ble_eq_true rfl, Nat.le_of_ble_eq_true rfl⟩ (fun H7 locs hp hzH7 hkH7 hS => ?_)
                  have hM := hp
                  refine lv_aload_n hx hb dX6_digest_126 rfl (lv_at hl 0 rfl) ?_
                  refine lv_aload_n hx hb dX6_digest_127 rfl (lv_at hl 0 rfl) ?_
                  refine dp_Vf hF hK hN (c_X6_mean l D G μ R S N R P B L1 L2 L3 sm kp 0 la ln sp od (31 * (31 * (fo (fun k => R (38 + k)) 12 (fom R 3 (fo (fun k => R k) 4 (fo (fun k => tcnt R n (nI k)) 12 3701)))) + (Int32.toInt64 (ntp R))) + ((ldsh R).toInt64))  _ hμ hM hfdF) (cwV 0 hts gX6_digest_X6_mean rfl rfl rfl (by decide +kernel) ⟨Nat.le_of_ble_eq_true rfl, Nat.le_of_ble_eq_true rfl⟩) (dp_recv hK hM.1 rfl) hS nA_i [.ref (μ 0)] rfl rfl hl.1 (Nat.le_of_ble_eq_true rfl) dX6_digest_128 ⟨Nat.le_of_ble_eq_true rfl, Nat.le_of_ble_eq_true rfl⟩ (fun rH8 H8 locs hp hzH8 hkH8 hS => ?_)
                  obtain ⟨rfl, rfl⟩ := hp
                  refine dp_Si hF hK hN (c_Jxf58ca_floatToIntBits_5c35a l D G (mnpw R) _ (okF_c hokF)) (va_cwS 1 hts gX6_digest_Jxf58ca_floatToIntBits_5c35a rfl rfl rfl (by decide +kernel) ⟨Nat.le_of_ble_eq_true rfl, Nat.le_of_ble_eq_true rfl⟩) hS nA_i [.ref (μ 0)] rfl rfl hl.1 (Nat.le_of_ble_eq_true rfl) dX6_digest_131 ⟨Nat.le_of_ble_eq_true rfl, Nat.le_of_ble_eq_true rfl⟩ (fun rH9 H9 locs hp hzH9 hkH9 hS => ?_)
                  obtain ⟨rfl, rfl⟩ := hp
                  refine lv_i2l hx hb dX6_digest_134 rfl ?_
                  refine dp_Vv hF hK hN (c_X6_mix l D G μ R S N R P B L1 L2 L3 sm kp 0 la ln sp od (31 * (31 * (fo (fun k => R (38 + k)) 12 (fom R 3 (fo (fun k => R k) 4 (fo (fun k => tcnt R n (nI k)) 12 3701)))) + (Int32.toInt64 (ntp R))) + ((ldsh R).toInt64)) (Int32.toInt64 ((mnpw R).toInt32)) _ hμ hM ) (cwV 1 hts gX6_digest_X6_mix rfl rfl rfl (by decide +kernel) ⟨Nat.le_of_ble_eq_true rfl, Nat.le_of_ble_eq_true rfl⟩) (dp_recv hK hM.1 rfl) hS (fun q hq => hq) [] rfl rfl hl.1 (Nat.le_of_ble_eq_true rfl) dX6_digest_135 ⟨Nat.le_of_ble_eq_true rfl, Nat.le_of_ble_eq_true rfl⟩ (fun H10 locs hp hzH10 hkH10 hS => ?_)
                  have hM := hp
                  refine lv_aload_n hx hb dX6_digest_138 rfl (lv_at hl 0 rfl) ?_
                  refine lv_aload_n hx hb dX6_digest_139 rfl (lv_at hl 0 rfl) ?_
                  refine dp_get hx hb hts (dp_hin 180 rfl) hown hK hM.1 rfl 4 (by decide) (hts (.fieldLink RX6 189 "DroopBoardModel" "isKept" "Z") (List.mem_of_getElem? (i := 5) rfl)) rfl dX6_digest_140 ?_
                  refine lv_if_eq (tgt := 150) hx hb dX6_digest_143 (by decide) (fun c5 => ?_) (fun c5 => ?_)
                  · refine lv_lconst (v := 0) hx hb dX6_digest_150 (by decide) ?_
                    refine dp_Vv hF hK hN (c_X6_mix l D G μ R S N R P B L1 L2 L3 sm kp 0 la ln sp od (31 * (31 * (31 * (fo (fun k => R (38 + k)) 12 (fom R 3 (fo (fun k => R k) 4 (fo (fun k => tcnt R n (nI k)) 12 3701)))) + (Int32.toInt64 (ntp R))) + ((ldsh R).toInt64)) + (Int32.toInt64 ((mnpw R).toInt32))) 0 _ hμ hM ) (cwV 1 hts gX6_digest_X6_mix rfl rfl rfl (by decide +kernel) ⟨Nat.le_of_ble_eq_true rfl, Nat.le_of_ble_eq_true rfl⟩) (dp_recv hK hM.1 rfl) hS (fun q hq => hq) [] rfl rfl hl.1 (Nat.le_of_ble_eq_true rfl) dX6_digest_151 ⟨Nat.le_of_ble_eq_true rfl, Nat.le_of_ble_eq_true rfl⟩ (fun H11 locs hp hzH11 hkH11 hS => ?_)
                    have hM := hp
                    refine lv_aload_n hx hb dX6_digest_154 rfl (lv_at hl 0 rfl) ?_
                    refine lv_aload_n hx hb dX6_digest_155 rfl (lv_at hl 0 rfl) ?_
                    refine dp_get hx hb hts (dp_hin 180 rfl) hown hK hM.1 rfl 10 (by decide) (hts (.fieldLink RX6 153 "DroopBoardModel" "length" "I") (List.mem_of_getElem? (i := 6) rfl)) rfl dX6_digest_156 ?_
                    refine lv_i2l hx hb dX6_digest_159 rfl ?_
                    refine dp_Vv hF hK hN (c_X6_mix l D G μ R S N R P B L1 L2 L3 sm kp 0 la ln sp od (31 * (31 * (31 * (31 * (fo (fun k => R (38 + k)) 12 (fom R 3 (fo (fun k => R k) 4 (fo (fun k => tcnt R n (nI k)) 12 3701)))) + (Int32.toInt64 (ntp R))) + ((ldsh R).toInt64)) + (Int32.toInt64 ((mnpw R).toInt32))) + 0) (Int32.toInt64 ln) _ hμ hM ) (cwV 1 hts gX6_digest_X6_mix rfl rfl rfl (by decide +kernel) ⟨Nat.le_of_ble_eq_true rfl, Nat.le_of_ble_eq_true rfl⟩) (dp_recv hK hM.1 rfl) hS (fun q hq => hq) [] rfl rfl hl.1 (Nat.le_of_ble_eq_true rfl) dX6_digest_160 ⟨Nat.le_of_ble_eq_true rfl, Nat.le_of_ble_eq_true rfl⟩ (fun H12 locs hp hzH12 hkH12 hS => ?_)
                    have hM := hp
                    refine lv_iconst (v := 0) hx hb dX6_digest_163 (by decide) ?_
                    refine lv_istore_n (lv' := [(1, .int 0), (0, .ref (μ 0))]) hx hb dX6_digest_164 rfl hl (by decide) rfl (fun ls hl => ?_)
                    have loop165 : ∀ (m9 : Nat) (i5 : Nat) (Hh : Heap) (_ : i5 + m9 = len) (_ : MP D G μ R S N R B L1 L2 L3 sm kp 0 ln sp od (fo B i5 (31 * (31 * (31 * (31 * (31 * (fo (fun k => R (38 + k)) 12 (fom R 3 (fo (fun k => R k) 4 (fo (fun k => tcnt R n (nI k)) 12 3701)))) + (Int32.toInt64 (ntp R))) + ((ldsh R).toInt64)) + (Int32.toInt64 ((mnpw R).toInt32))) + 0) + (Int32.toInt64 ln))) Hh) (locs : List Loc) (_ : va_S (A6 μ) s.heap Hh locs) (ls : Array Slot) (_ : lv_has ls 2 [(0, .ref (μ 0)), (1, .int (nI i5))]), W p l e (headSpec wsX6_digest ({ frames := 10, cells := 0, slots := 0, locals := 226 } : Room)).room s m ([.ref (μ 0)] : List Value).toArray below meth c Hh locs 0 0 (MQ below (QL (A6 μ) (fun r h => dig R kp n B len 3701 = r ∧ MP D G μ R S N R B L1 L2 L3 sm kp 0 ln sp od (dig R kp n B len 3701) h)) ([.ref (μ 0)] : List Value).toArray s 0 0 (A6 μ)) (F0 m 165 ls []) := by
                      intro m9
                      induction m9 with
                      | zero =>
                        intro i5 Hh hini5 hMPi5 locs hS ls hl
                        obtain ⟨P, la, hM⟩ := hMPi5
                        obtain rfl : len = i5 := by omega
                        refine lv_iload_n hx hb dX6_digest_165 rfl (lv_at hl 1 rfl) ?_
                        refine lv_aload_n hx hb dX6_digest_166 rfl (lv_at hl 0 rfl) ?_
                        refine dp_get hx hb hts (dp_hin 180 rfl) hown hK hM.1 rfl 10 (by decide) (hts (.fieldLink RX6 153 "DroopBoardModel" "length" "I") (List.mem_of_getElem? (i := 6) rfl)) rfl dX6_digest_167 ?_
                        refine lv_icmp_ge (tgt := 190) hx hb dX6_digest_170 (by decide) (fun c6 => ?_) (fun c6 => absurd (by rw [hln]; exact nI_le (a := len) (b := len) (by omega) (by omega)) c6)
                        refine lv_aload_n hx hb dX6_digest_190 rfl (lv_at hl 0 rfl) ?_
                        refine dp_get hx hb hts (dp_hin 180 rfl) hown hK hM.1 rfl 16 (by decide) (hts (.fieldLink RX6 240 "DroopBoardModel" "hash" "J") (List.mem_of_getElem? (i := 3) rfl)) rfl dX6_digest_191 ?_
                        have ek : Int32.toInt64 (if kp = 0 then (0 : Int32) else 1) = 0 := by rw [if_pos c5]; decide
                        have e9 : dig R kp n B len 3701 = fo B len (31 * (31 * (31 * (31 * (31 * (fo (fun k => R (38 + k)) 12 (fom R 3 (fo (fun k => R k) 4 (fo (fun k => tcnt R n (nI k)) 12 3701)))) + (Int32.toInt64 (ntp R))) + ((ldsh R).toInt64)) + (Int32.toInt64 ((mnpw R).toInt32))) + 0) + (Int32.toInt64 ln)) := by rw [dig, ek, ← fo_cod, ← fo12 hwz.1, hln]
                        exact W.lret hx hb hr (fun t ht hW => ⟨⟨fo B len (31 * (31 * (31 * (31 * (31 * (fo (fun k => R (38 + k)) 12 (fom R 3 (fo (fun k => R k) 4 (fo (fun k => tcnt R n (nI k)) 12 3701)))) + (Int32.toInt64 (ntp R))) + ((ldsh R).toInt64)) + (Int32.toInt64 ((mnpw R).toInt32))) + 0) + (Int32.toInt64 ln)), Hh, rfl, ⟨e9, P, la, by rw [e9]; exact hM⟩, ht⟩, hS.F ht⟩) hS.2.2 dX6_digest_194
                      | succ m9 ih165 =>
                        intro i5 Hh hini5 hMPi5 locs hS ls hl
                        obtain ⟨P, la, hM⟩ := hMPi5
                        refine lv_iload_n hx hb dX6_digest_165 rfl (lv_at hl 1 rfl) ?_
                        refine lv_aload_n hx hb dX6_digest_166 rfl (lv_at hl 0 rfl) ?_
                        refine dp_get hx hb hts (dp_hin 180 rfl) hown hK hM.1 rfl 10 (by decide) (hts (.fieldLink RX6 153 "DroopBoardModel" "length" "I") (List.mem_of_getElem? (i := 6) rfl)) rfl dX6_digest_167 ?_
                        refine lv_icmp_ge (tgt := 190) hx hb dX6_digest_170 (by decide) (fun c7 => absurd c7 (by rw [hln]; exact nI_ge (a := i5) (b := len) (by omega) (by omega))) (fun c7 => ?_)
                        refine lv_aload_n hx hb dX6_digest_173 rfl (lv_at hl 0 rfl) ?_
                        refine lv_aload_n hx hb dX6_digest_174 rfl (lv_at hl 0 rfl) ?_
                        refine dp_get hx hb hts (dp_hin 180 rfl) hown hK hM.1 rfl 9 (by decide) (hts (.fieldLink RX6 25 "DroopBoardModel" "buffer" "[I") (List.mem_of_getElem? (i := 7) rfl)) rfl dX6_digest_175 ?_
                        refine lv_iload_n hx hb dX6_digest_178 rfl (lv_at hl 1 rfl) ?_
                        refine dp_iald hx hb hK hM.2.2.2.2.2.2.1 0 rfl i5 rfl (by omega) (by decide) dX6_digest_179 ?_
                        refine lv_i2l hx hb dX6_digest_180 rfl ?_
                        refine dp_Vv hF hK hN (c_X6_mix l D G μ R S N R P B L1 L2 L3 sm kp 0 la ln sp od (fo B i5 (31 * (31 * (31 * (31 * (31 * (fo (fun k => R (38 + k)) 12 (fom R 3 (fo (fun k => R k) 4 (fo (fun k => tcnt R n (nI k)) 12 3701)))) + (Int32.toInt64 (ntp R))) + ((ldsh R).toInt64)) + (Int32.toInt64 ((mnpw R).toInt32))) + 0) + (Int32.toInt64 ln))) (Int32.toInt64 (B i5)) _ hμ hM ) (cwV 1 hts gX6_digest_X6_mix rfl rfl rfl (by decide +kernel) ⟨Nat.le_of_ble_eq_true rfl, Nat.le_of_ble_eq_true rfl⟩) (dp_recv hK hM.1 rfl) hS (fun q hq => hq) [] rfl rfl hl.1 (Nat.le_of_ble_eq_true rfl) dX6_digest_181 ⟨Nat.le_of_ble_eq_true rfl, Nat.le_of_ble_eq_true rfl⟩ (fun H13 locs hp hzH13 hkH13 hS => ?_)
                        have hM := hp
                        refine lv_iinc (v := nI (i5 + 1)) (lv' := [(1, .int (nI (i5 + 1))), (0, .ref (μ 0))]) hx hb dX6_digest_184 hl (k := 1) rfl (nI_1 i5) (by decide) rfl (fun ls hl => ?_)
                        refine lv_goto (tgt := 165) hx hb dX6_digest_187 (by decide) ?_
                        exact ih165 (i5 + 1) H13 (by omega) ⟨_, _, hM⟩ _ hS _ (lv_sub hl [1, 0] rfl)
                    exact loop165 len 0 H12 (by omega) ⟨_, _, hM⟩ _ hS _ (lv_sub hl [1, 0] rfl)
                  refine lv_lconst (v := 1) hx hb dX6_digest_146 (by decide) ?_
                  refine lv_goto (tgt := 151) hx hb dX6_digest_147 (by decide) ?_
                  refine dp_Vv hF hK hN (c_X6_mix l D G μ R S N R P B L1 L2 L3 sm kp 0 la ln sp od (31 * (31 * (31 * (fo (fun k => R (38 + k)) 12 (fom R 3 (fo (fun k => R k) 4 (fo (fun k => tcnt R n (nI k)) 12 3701)))) + (Int32.toInt64 (ntp R))) + ((ldsh R).toInt64)) + (Int32.toInt64 ((mnpw R).toInt32))) 1 _ hμ hM ) (cwV 1 hts gX6_digest_X6_mix rfl rfl rfl (by decide +kernel) ⟨Nat.le_of_ble_eq_true rfl, Nat.le_of_ble_eq_true rfl⟩) (dp_recv hK hM.1 rfl) hS (fun q hq => hq) [] rfl rfl hl.1 (Nat.le_of_ble_eq_true rfl) dX6_digest_151 ⟨Nat.le_of_ble_eq_true rfl, Nat.le_of_ble_eq_true rfl⟩ (fun H14 locs hp hzH14 hkH14 hS => ?_)
                  have hM := hp
                  refine lv_aload_n hx hb dX6_digest_154 rfl (lv_at hl 0 rfl) ?_
                  refine lv_aload_n hx hb dX6_digest_155 rfl (lv_at hl 0 rfl) ?_
                  refine dp_get hx hb hts (dp_hin 180 rfl) hown hK hM.1 rfl 10 (by decide) (hts (.fieldLink RX6 153 "DroopBoardModel" "length" "I") (List.mem_of_getElem? (i := 6) rfl)) rfl dX6_digest_156 ?_
                  refine lv_i2l hx hb dX6_digest_159 rfl ?_
                  refine dp_Vv hF hK hN (c_X6_mix l D G μ R S N R P B L1 L2 L3 sm kp 0 la ln sp od (31 * (31 * (31 * (31 * (fo (fun k => R (38 + k)) 12 (fom R 3 (fo (fun k => R k) 4 (fo (fun k => tcnt R n (nI k)) 12 3701)))) + (Int32.toInt64 (ntp R))) + ((ldsh R).toInt64)) + (Int32.toInt64 ((mnpw R).toInt32))) + 1) (Int32.toInt64 ln) _ hμ hM ) (cwV 1 hts gX6_digest_X6_mix rfl rfl rfl (by decide +kernel) ⟨Nat.le_of_ble_eq_true rfl, Nat.le_of_ble_eq_true rfl⟩) (dp_recv hK hM.1 rfl) hS (fun q hq => hq) [] rfl rfl hl.1 (Nat.le_of_ble_eq_true rfl) dX6_digest_160 ⟨Nat.le_of_ble_eq_true rfl, Nat.le_of_ble_eq_true rfl⟩ (fun H15 locs hp hzH15 hkH15 hS => ?_)
                  have hM := hp
                  refine lv_iconst (v := 0) hx hb dX6_digest_163 (by decide) ?_
                  refine lv_istore_n (lv' := [(1, .int 0), (0, .ref (μ 0))]) hx hb dX6_digest_164 rfl hl (by decide) rfl (fun ls hl => ?_)
                  have loop165 : ∀ (m9 : Nat) (i5 : Nat) (Hh : Heap) (_ : i5 + m9 = len) (_ : MP D G μ R S N R B L1 L2 L3 sm kp 0 ln sp od (fo B i5 (31 * (31 * (31 * (31 * (31 * (fo (fun k => R (38 + k)) 12 (fom R 3 (fo (fun k => R k) 4 (fo (fun k => tcnt R n (nI k)) 12 3701)))) + (Int32.toInt64 (ntp R))) + ((ldsh R).toInt64)) + (Int32.toInt64 ((mnpw R).toInt32))) + 1) + (Int32.toInt64 ln))) Hh) (locs : List Loc) (_ : va_S (A6 μ) s.heap Hh locs) (ls : Array Slot) (_ : lv_has ls 2 [(0, .ref (μ 0)), (1, .int (nI i5))]), W p l e (headSpec wsX6_digest ({ frames := 10, cells := 0, slots := 0, locals := 226 } : Room)).room s m ([.ref (μ 0)] : List Value).toArray below meth c Hh locs 0 0 (MQ below (QL (A6 μ) (fun r h => dig R kp n B len 3701 = r ∧ MP D G μ R S N R B L1 L2 L3 sm kp 0 ln sp od (dig R kp n B len 3701) h)) ([.ref (μ 0)] : List Value).toArray s 0 0 (A6 μ)) (F0 m 165 ls []) := by
                    intro m9
                    induction m9 with
                    | zero =>
                      intro i5 Hh hini5 hMPi5 locs hS ls hl
                      obtain ⟨P, la, hM⟩ := hMPi5
                      obtain rfl : len = i5 := by omega
                      refine lv_iload_n hx hb dX6_digest_165 rfl (lv_at hl 1 rfl) ?_
                      refine lv_aload_n hx hb dX6_digest_166 rfl (lv_at hl 0 rfl) ?_
                      refine dp_get hx hb hts (dp_hin 180 rfl) hown hK hM.1 rfl 10 (by decide) (hts (.fieldLink RX6 153 "DroopBoardModel" "length" "I") (List.mem_of_getElem? (i := 6) rfl)) rfl dX6_digest_167 ?_
                      refine lv_icmp_ge (tgt := 190) hx hb dX6_digest_170 (by decide) (fun c8 => ?_) (fun c8 => absurd (by rw [hln]; exact nI_le (a := len) (b := len) (by omega) (by omega)) c8)
                      refine lv_aload_n hx hb dX6_digest_190 rfl (lv_at hl 0 rfl) ?_
                      refine dp_get hx hb hts (dp_hin 180 rfl) hown hK hM.1 rfl 16 (by decide) (hts (.fieldLink RX6 240 "DroopBoardModel" "hash" "J") (List.mem_of_getElem? (i := 3) rfl)) rfl dX6_digest_191 ?_
                      have ek : Int32.toInt64 (if kp = 0 then (0 : Int32) else 1) = 1 := by rw [if_neg c5]; decide
                      have e9 : dig R kp n B len 3701 = fo B len (31 * (31 * (31 * (31 * (31 * (fo (fun k => R (38 + k)) 12 (fom R 3 (fo (fun k => R k) 4 (fo (fun k => tcnt R n (nI k)) 12 3701)))) + (Int32.toInt64 (ntp R))) + ((ldsh R).toInt64)) + (Int32.toInt64 ((mnpw R).toInt32))) + 1) + (Int32.toInt64 ln)) := by rw [dig, ek, ← fo_cod, ← fo12 hwz.1, hln]
                      exact W.lret hx hb hr (fun t ht hW => ⟨⟨fo B len (31 * (31 * (31 * (31 * (31 * (fo (fun k => R (38 + k)) 12 (fom R 3 (fo (fun k => R k) 4 (fo (fun k => tcnt R n (nI k)) 12 3701)))) + (Int32.toInt64 (ntp R))) + ((ldsh R).toInt64)) + (Int32.toInt64 ((mnpw R).toInt32))) + 1) + (Int32.toInt64 ln)), Hh, rfl, ⟨e9, P, la, by rw [e9]; exact hM⟩, ht⟩, hS.F ht⟩) hS.2.2 dX6_digest_194
                    | succ m9 ih165 =>
                      intro i5 Hh hini5 hMPi5 locs hS ls hl
                      obtain ⟨P, la, hM⟩ := hMPi5
                      refine lv_iload_n hx hb dX6_digest_165 rfl (lv_at hl 1 rfl) ?_
                      refine lv_aload_n hx hb dX6_digest_166 rfl (lv_at hl 0 rfl) ?_
                      refine dp_get hx hb hts (dp_hin 180 rfl) hown hK hM.1 rfl 10 (by decide) (hts (.fieldLink RX6 153 "DroopBoardModel" "length" "I") (List.mem_of_getElem? (i := 6) rfl)) rfl dX6_digest_167 ?_
                      refine lv_icmp_ge (tgt := 190) hx hb dX6_digest_170 (by decide) (fun c9 => absurd c9 (by rw [hln]; exact nI_ge (a := i5) (b := len) (by omega) (by omega))) (fun c9 => ?_)
                      refine lv_aload_n hx hb dX6_digest_173 rfl (lv_at hl 0 rfl) ?_
                      refine lv_aload_n hx hb dX6_digest_174 rfl (lv_at hl 0 rfl) ?_
                      refine dp_get hx hb hts (dp_hin 180 rfl) hown hK hM.1 rfl 9 (by decide) (hts (.fieldLink RX6 25 "DroopBoardModel" "buffer" "[I") (List.mem_of_getElem? (i := 7) rfl)) rfl dX6_digest_175 ?_
                      refine lv_iload_n hx hb dX6_digest_178 rfl (lv_at hl 1 rfl) ?_
                      refine dp_iald hx hb hK hM.2.2.2.2.2.2.1 0 rfl i5 rfl (by omega) (by decide) dX6_digest_179 ?_
                      refine lv_i2l hx hb dX6_digest_180 rfl ?_
                      refine dp_Vv hF hK hN (c_X6_mix l D G μ R S N R P B L1 L2 L3 sm kp 0 la ln sp od (fo B i5 (31 * (31 * (31 * (31 * (31 * (fo (fun k => R (38 + k)) 12 (fom R 3 (fo (fun k => R k) 4 (fo (fun k => tcnt R n (nI k)) 12 3701)))) + (Int32.toInt64 (ntp R))) + ((ldsh R).toInt64)) + (Int32.toInt64 ((mnpw R).toInt32))) + 1) + (Int32.toInt64 ln))) (Int32.toInt64 (B i5)) _ hμ hM ) (cwV 1 hts gX6_digest_X6_mix rfl rfl rfl (by decide +kernel) ⟨Nat.le_of_ble_eq_true rfl, Nat.le_of_ble_eq_true rfl⟩) (dp_recv hK hM.1 rfl) hS (fun q hq => hq) [] rfl rfl hl.1 (Nat.le_of_ble_eq_true rfl) dX6_digest_181 ⟨Nat.le_of_ble_eq_true rfl, Nat.le_of_ble_eq_true rfl⟩ (fun H16 locs hp hzH16 hkH16 hS => ?_)
                      have hM := hp
                      refine lv_iinc (v := nI (i5 + 1)) (lv' := [(1, .int (nI (i5 + 1))), (0, .ref (μ 0))]) hx hb dX6_digest_184 hl (k := 1) rfl (nI_1 i5) (by decide) rfl (fun ls hl => ?_)
                      refine lv_goto (tgt := 165) hx hb dX6_digest_187 (by decide) ?_
                      exact ih165 (i5 + 1) H16 (by omega) ⟨_, _, hM⟩ _ hS _ (lv_sub hl [1, 0] rfl)
                  exact loop165 len 0 H15 (by omega) ⟨_, _, hM⟩ _ hS _ (lv_sub hl [1, 0] rfl)
                | succ m9 ih80 =>
                  intro i4 Hh hini4 hMPi4 locs hS ls hl
                  obtain ⟨P, la, hM⟩ := hMPi4
                  refine lv_iload_n hx hb dX6_digest_80 rfl (lv_at hl 1 rfl) ?_
                  refine lv_bipush (v := 12) hx hb dX6_digest_81 (by decide) ?_
                  refine lv_icmp_ge (tgt := 106) hx hb dX6_digest_83 (by decide) (fun c10 => absurd c10 (nI_ge (a := i4) (b := 12) (by omega) (by omega))) (fun c10 => ?_)
                  refine lv_aload_n hx hb dX6_digest_86 rfl (lv_at hl 0 rfl) ?_
                  refine lv_aload_n hx hb dX6_digest_87 rfl (lv_at hl 0 rfl) ?_
                  refine dp_get hx hb hts (dp_hin 180 rfl) hown hK hM.1 rfl 0 (by decide) (hts (.fieldLink RX6 7 "DroopBoardModel" "row" "[I") (List.mem_of_getElem? (i := 4) rfl)) rfl dX6_digest_88 ?_
                  refine lv_bipush (v := 38) hx hb dX6_digest_91 (by decide) ?_
                  refine lv_iload_n hx hb dX6_digest_93 rfl (lv_at hl 1 rfl) ?_
                  refine lv_iadd hx hb dX6_digest_94 ?_
                  rw [show (38 : Int32) + nI i4 = nI (38 + i4) from nI_add 38 i4]
                  refine dp_iald hx hb hK hM.2.1 0 rfl ((38 + i4)) rfl (by omega) (by decide) dX6_digest_95 ?_
                  refine lv_i2l hx hb dX6_digest_96 rfl ?_
                  refine dp_Vv hF hK hN (c_X6_mix l D G μ R S N E9 P B L1 L2 L3 sm kp 0 la ln sp od (fo (fun k => R (38 + k)) i4 (fom R 3 (fo (fun k => R k) 4 (fo (fun k => tcnt R n (nI k)) 12 3701)))) (Int32.toInt64 (R ((38 + i4)))) _ hμ hM ) (cwV 1 hts gX6_digest_X6_mix rfl rfl rfl (by decide +kernel) ⟨Nat.le_of_ble_eq_true rfl, Nat.le_of_ble_eq_true rfl⟩) (dp_recv hK hM.1 rfl) hS (fun q hq => hq) [] rfl rfl hl.1 (Nat.le_of_ble_eq_true rfl) dX6_digest_97 ⟨Nat.le_of_ble_eq_true rfl, Nat.le_of_ble_eq_true rfl⟩ (fun H17 locs hp hzH17 hkH17 hS => ?_)
                  have hM := hp
                  refine lv_iinc (v := nI (i4 + 1)) (lv' := [(1, .int (nI (i4 + 1))), (0, .ref (μ 0))]) hx hb dX6_digest_100 hl (k := 1) rfl (nI_1 i4) (by decide) rfl (fun ls hl => ?_)
                  refine lv_goto (tgt := 80) hx hb dX6_digest_103 (by decide) ?_
                  exact ih80 (i4 + 1) H17 (by omega) ⟨_, _, hM⟩ _ hS _ (lv_sub hl [1, 0] rfl)
              exact loop80 12 0 Hh rfl ⟨_, _, hM⟩ _ hS _ (lv_sub hl [1, 0] rfl)
            | succ m9 ih62 =>
              intro i3 E9 Hh hini3 hMPi3 locs hS ls hl
              obtain ⟨P, la, hM⟩ := hMPi3
              refine lv_iload_n hx hb dX6_digest_62 rfl (lv_at hl 1 rfl) ?_
              refine lv_iconst (v := 3) hx hb dX6_digest_63 (by decide) ?_
              refine lv_icmp_ge (tgt := 78) hx hb dX6_digest_64 (by decide) (fun c11 => absurd c11 (nI_ge (a := i3) (b := 3) (by omega) (by omega))) (fun c11 => ?_)
              refine lv_aload_n hx hb dX6_digest_67 rfl (lv_at hl 0 rfl) ?_
              refine lv_iload_n hx hb dX6_digest_68 rfl (lv_at hl 1 rfl) ?_
              refine dp_Vv hF hK hN (c_X6_mixSet l D G μ R S N E9 P B L1 L2 L3 sm kp 0 la ln sp od (fom R i3 (fo (fun k => R k) 4 (fo (fun k => tcnt R n (nI k)) 12 3701))) i3 _ hμ hM hwz (by omega) (gd_w5 hg (show i3 < 3 by omega)) (fun i _ => gd_htk hg i) (rat_0 hg (show i3 < 3 by omega)) (gd_wv hg (show i3 < 3 by omega))) (cwV 1 hts gX6_digest_X6_mixSet rfl rfl rfl (by decide +kernel) ⟨Nat.le_of_ble_eq_true rfl, Nat.le_of_ble_eq_true rfl⟩) (dp_recv hK hM.1 rfl) hS (fun q hq => hq) [] rfl rfl hl.1 (Nat.le_of_ble_eq_true rfl) dX6_digest_69 ⟨Nat.le_of_ble_eq_true rfl, Nat.le_of_ble_eq_true rfl⟩ (fun H18 locs hp hzH18 hkH18 hS => ?_)
              obtain ⟨P, la, hM⟩ := hp
              refine lv_iinc (v := nI (i3 + 1)) (lv' := [(1, .int (nI (i3 + 1))), (0, .ref (μ 0))]) hx hb dX6_digest_72 hl (k := 1) rfl (nI_1 i3) (by decide) rfl (fun ls hl => ?_)
              refine lv_goto (tgt := 62) hx hb dX6_digest_75 (by decide) ?_
              exact ih62 (i3 + 1) R H18 (by omega) ⟨_, _, hM⟩ _ hS _ (lv_sub hl [1, 0] rfl)
          exact loop62 3 0 E Hh rfl ⟨_, _, hM⟩ _ hS _ (lv_sub hl [1, 0] rfl)
        | succ m9 ih38 =>
          intro i2 Hh hini2 hMPi2 locs hS ls hl
          obtain ⟨P, la, hM⟩ := hMPi2
          refine lv_iload_n hx hb dX6_digest_38 rfl (lv_at hl 1 rfl) ?_
          refine lv_iconst (v := 4) hx hb dX6_digest_39 (by decide) ?_
          refine lv_icmp_ge (tgt := 60) hx hb dX6_digest_40 (by decide) (fun c12 => absurd c12 (nI_ge (a := i2) (b := 4) (by omega) (by omega))) (fun c12 => ?_)
          refine lv_aload_n hx hb dX6_digest_43 rfl (lv_at hl 0 rfl) ?_
          refine lv_aload_n hx hb dX6_digest_44 rfl (lv_at hl 0 rfl) ?_
          refine dp_get hx hb hts (dp_hin 180 rfl) hown hK hM.1 rfl 0 (by decide) (hts (.fieldLink RX6 7 "DroopBoardModel" "row" "[I") (List.mem_of_getElem? (i := 4) rfl)) rfl dX6_digest_45 ?_
          refine lv_iload_n hx hb dX6_digest_48 rfl (lv_at hl 1 rfl) ?_
          refine dp_iald hx hb hK hM.2.1 0 rfl i2 rfl (by omega) (by decide) dX6_digest_49 ?_
          refine lv_i2l hx hb dX6_digest_50 rfl ?_
          refine dp_Vv hF hK hN (c_X6_mix l D G μ R S N E P B L1 L2 L3 sm kp 0 la ln sp od (fo (fun k => R k) i2 (fo (fun k => tcnt R n (nI k)) 12 3701)) (Int32.toInt64 (R i2)) _ hμ hM ) (cwV 1 hts gX6_digest_X6_mix rfl rfl rfl (by decide +kernel) ⟨Nat.le_of_ble_eq_true rfl, Nat.le_of_ble_eq_true rfl⟩) (dp_recv hK hM.1 rfl) hS (fun q hq => hq) [] rfl rfl hl.1 (Nat.le_of_ble_eq_true rfl) dX6_digest_51 ⟨Nat.le_of_ble_eq_true rfl, Nat.le_of_ble_eq_true rfl⟩ (fun H19 locs hp hzH19 hkH19 hS => ?_)
          have hM := hp
          refine lv_iinc (v := nI (i2 + 1)) (lv' := [(1, .int (nI (i2 + 1))), (0, .ref (μ 0))]) hx hb dX6_digest_54 hl (k := 1) rfl (nI_1 i2) (by decide) rfl (fun ls hl => ?_)
          refine lv_goto (tgt := 38) hx hb dX6_digest_57 (by decide) ?_
          exact ih38 (i2 + 1) H19 (by omega) ⟨_, _, hM⟩ _ hS _ (lv_sub hl [1, 0] rfl)
      exact loop38 4 0 Hh rfl ⟨_, _, hM⟩ _ hS _ (lv_sub hl [1, 0] rfl)
    | succ m9 ih14 =>
      intro i1 Hh hini1 hMPi1 locs hS ls hl
      obtain ⟨P, la, hM⟩ := hMPi1
      refine lv_iload_n hx hb dX6_digest_14 rfl (lv_at hl 1 rfl) ?_
      refine lv_bipush (v := 12) hx hb dX6_digest_15 (by decide) ?_
      refine lv_icmp_ge (tgt := 36) hx hb dX6_digest_17 (by decide) (fun c13 => absurd c13 (nI_ge (a := i1) (b := 12) (by omega) (by omega))) (fun c13 => ?_)
      refine lv_aload_n hx hb dX6_digest_20 rfl (lv_at hl 0 rfl) ?_
      refine lv_aload_n hx hb dX6_digest_21 rfl (lv_at hl 0 rfl) ?_
      refine lv_iload_n hx hb dX6_digest_22 rfl (lv_at hl 1 rfl) ?_
      refine dp_Vi hF hK hN (c_X6_number l D G μ R S N E P B L1 L2 L3 sm kp 0 la ln sp od (fo (fun k => tcnt R n (nI k)) i1 3701) n (nI i1) _ hμ hM hwz h5 h6 hsm (nI_12 (i := i1) (by omega))) (cwV 1 hts gX6_digest_X6_number rfl rfl rfl (by decide +kernel) ⟨Nat.le_of_ble_eq_true rfl, Nat.le_of_ble_eq_true rfl⟩) (dp_recv hK hM.1 rfl) hS (fun q hq => hq) [.ref (μ 0)] rfl rfl hl.1 (Nat.le_of_ble_eq_true rfl) dX6_digest_23 ⟨Nat.le_of_ble_eq_true rfl, Nat.le_of_ble_eq_true rfl⟩ (fun rH20 H20 locs hp hzH20 hkH20 hS => ?_)
      obtain ⟨rfl, P, la, hM⟩ := hp
      refine lv_i2l hx hb dX6_digest_26 rfl ?_
      refine dp_Vv hF hK hN (c_X6_mix l D G μ R S N E P B L1 L2 L3 sm kp 0 la ln sp od (fo (fun k => tcnt R n (nI k)) i1 3701) (Int32.toInt64 (tcnt R n (nI i1))) _ hμ hM ) (cwV 1 hts gX6_digest_X6_mix rfl rfl rfl (by decide +kernel) ⟨Nat.le_of_ble_eq_true rfl, Nat.le_of_ble_eq_true rfl⟩) (dp_recv hK hM.1 rfl) hS (fun q hq => hq) [] rfl rfl hl.1 (Nat.le_of_ble_eq_true rfl) dX6_digest_27 ⟨Nat.le_of_ble_eq_true rfl, Nat.le_of_ble_eq_true rfl⟩ (fun H21 locs hp hzH21 hkH21 hS => ?_)
      have hM := hp
      refine lv_iinc (v := nI (i1 + 1)) (lv' := [(1, .int (nI (i1 + 1))), (0, .ref (μ 0))]) hx hb dX6_digest_30 hl (k := 1) rfl (nI_1 i1) (by decide) rfl (fun ls hl => ?_)
      refine lv_goto (tgt := 14) hx hb dX6_digest_33 (by decide) ?_
      exact ih14 (i1 + 1) H21 (by omega) ⟨_, _, hM⟩ _ hS _ (lv_sub hl [1, 0] rfl)
  exact loop14 12 0 H2 rfl ⟨_, _, hM⟩ _ hS _ (lv_sub hl [1, 0] rfl)
