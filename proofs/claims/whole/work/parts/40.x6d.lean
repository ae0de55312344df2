set_option maxHeartbeats 600000 in
set_option maxRecDepth 100000 in
theorem c_X6_power (l : Launch) (D : va_G) (G : Nat → ClassId) (μ : Nat → Nat) (R S N E P B L1 L2 L3 : Nat → Int32) (sm kp th la ln sp od : Int32) (hs : Int64) (j : Nat) (H : Heap) (hμ : inj 10 μ) (hM : MO D G μ R S N E P B L1 L2 L3 sm kp th la ln sp od hs H) (hwz : wz R) (hj : j < 3) : Met l yX6_power wsX6_power ({ frames := 6, cells := 0, slots := 0, locals := 131 } : Room) (va_Pc [.ref (μ 0), .int (nI j)] (CX D G H)) (QI (A6 μ) (fun r h => pw R j (fq R) = r ∧ MP D G μ R S N E B L1 L2 L3 sm kp th ln sp od hs h)) 0 0 (A6 μ) := by
  refine Met.ofW (cc := cX6_power) (maxL := 2) (ret := (some .int)) (by decide) rfl ?_
  intro p e s m args below meth c s₁ B0 hml hv
  obtain ⟨rfl, rfl, hK, hN⟩ := hv
  have hx := B0.exec
  have hb := B0.bytes
  have hr := B0.returns
  have hts := atoms_spec (ws := wsX6_power) B0.pre
  have hown : s.vm.findClass RX6 = some m.cls := findClass_of_methodNamed B0.named
  have hlocks := B0.notSynchronized
  have hF : CallFix p m c cX6_power 2 s ([.ref (μ 0), .int (nI j)] : List Value).toArray wsX6_power RX6 := ⟨hx, hb, hml, hown, hts⟩
  have hS : va_S (A6 μ) s.heap s.heap [] := va_S.rf
  have hl := lv_entry ([.ref (μ 0), .int (nI j)]) (n := 2) (Nat.le_of_ble_eq_true rfl)
  rw [lg_entry_eq]
  generalize (lg_sl ([.ref (μ 0), .int (nI j)]) ++ List.replicate (2 - (lg_sl ([.ref (μ 0), .int (nI j)])).length) Slot.unset).toArray = ls at hl ⊢
  have hl : lv_has ls 2 [(0, .ref (μ 0)), (1, .int (nI j))] := hl
  refine lv_aload_n hx hb dX6_power_0 rfl (lv_at hl 0 rfl) ?_
  refine dp_Vv hF hK hN (c_X6_find l D G μ R S N E P B L1 L2 L3 sm kp th la ln sp od hs _ hμ hM hwz) (cwV 0 hts gX6_power_X6_find rfl rfl rfl (by decide +kernel) ⟨Nat.le_of_ble_eq_true rfl, Nat.le_of_ble_eq_true rfl⟩) (dp_recv hK hM.1 rfl) hS (fun q hq => hq) [] rfl rfl hl.1 (Nat.le_of_ble_eq_true rfl) dX6_power_1 ⟨Nat.le_of_ble_eq_true rfl, Nat.le_of_ble_eq_true rfl⟩ (fun H1 locs hp hzH1 hkH1 hS => ?_)
  obtain ⟨P, hP, hM⟩ := hp
  refine lv_aload_n hx hb dX6_power_4 rfl (lv_at hl 0 rfl) ?_
  refine dp_get hx hb hts (dp_hin 41 rfl) hown hK hM.1 rfl 7 (by decide) (hts (.fieldLink RX6 22 "DroopBoardModel" "powers" "[I") (List.mem_of_getElem? (i := 1) rfl)) rfl dX6_power_5 ?_
  refine lv_iload_n hx hb dX6_power_8 rfl (lv_at hl 1 rfl) ?_
  refine dp_iald hx hb hK hM.2.2.2.2.2.1 0 rfl j rfl hj (by decide) dX6_power_9 ?_
  exact W.iret hx hb hr (fun t ht hW => ⟨⟨P j, H1, rfl, ⟨(hP j hj).symm, _, _, hM⟩, ht⟩, hS.F ht⟩) hS.2.2 dX6_power_10

set_option maxHeartbeats 600000 in
set_option maxRecDepth 100000 in
theorem c_X6_allPowers (l : Launch) (D : va_G) (G : Nat → ClassId) (μ : Nat → Nat) (R S N E P B L1 L2 L3 : Nat → Int32) (sm kp th la ln sp od : Int32) (hs : Int64)  (H : Heap) (hμ : inj 10 μ) (hM : MO D G μ R S N E P B L1 L2 L3 sm kp th la ln sp od hs H) (hwz : wz R) : Met l yX6_allPowers wsX6_allPowers ({ frames := 6, cells := 0, slots := 0, locals := 131 } : Room) (va_Pc [.ref (μ 0)] (CX D G H)) (QI (A6 μ) (fun r h => psum R (fq R) 3 = r ∧ MP D G μ R S N E B L1 L2 L3 sm kp th ln sp od hs h)) 0 0 (A6 μ) := by
  refine Met.ofW (cc := cX6_allPowers) (maxL := 1) (ret := (some .int)) (by decide) rfl ?_
  intro p e s m args below meth c s₁ B0 hml hv
  obtain ⟨rfl, rfl, hK, hN⟩ := hv
  have hx := B0.exec
  have hb := B0.bytes
  have hr := B0.returns
  have hts := atoms_spec (ws := wsX6_allPowers) B0.pre
  have hown : s.vm.findClass RX6 = some m.cls := findClass_of_methodNamed B0.named
  have hlocks := B0.notSynchronized
  have hF : CallFix p m c cX6_allPowers 1 s ([.ref (μ 0)] : List Value).toArray wsX6_allPowers RX6 := ⟨hx, hb, hml, hown, hts⟩
  have hS : va_S (A6 μ) s.heap s.heap [] := va_S.rf
  have hl := lv_entry ([.ref (μ 0)]) (n := 1) (Nat.le_of_ble_eq_true rfl)
  rw [lg_entry_eq]
  generalize (lg_sl ([.ref (μ 0)]) ++ List.replicate (1 - (lg_sl ([.ref (μ 0)])).length) Slot.unset).toArray = ls at hl ⊢
  have hl : lv_has ls 1 [(0, .ref (μ 0))] := hl
  refine lv_aload_n hx hb dX6_allPowers_0 rfl (lv_at hl 0 rfl) ?_
  refine dp_Vv hF hK hN (c_X6_find l D G μ R S N E P B L1 L2 L3 sm kp th la ln sp od hs _ hμ hM hwz) (cwV 0 hts gX6_allPowers_X6_find rfl rfl rfl (by decide +kernel) ⟨Nat.le_of_ble_eq_true rfl, Nat.le_of_ble_eq_true rfl⟩) (dp_recv hK hM.1 rfl) hS (fun q hq => hq) [] rfl rfl hl.1 (Nat.le_of_ble_eq_true rfl) dX6_allPowers_1 ⟨Nat.le_of_ble_eq_true rfl, Nat.le_of_ble_eq_true rfl⟩ (fun H1 locs hp hzH1 hkH1 hS => ?_)
  obtain ⟨P, hP, hM⟩ := hp
  refine lv_aload_n hx hb dX6_allPowers_4 rfl (lv_at hl 0 rfl) ?_
  refine dp_get hx hb hts (dp_hin 41 rfl) hown hK hM.1 rfl 7 (by decide) (hts (.fieldLink RX6 22 "DroopBoardModel" "powers" "[I") (List.mem_of_getElem? (i := 1) rfl)) rfl dX6_allPowers_5 ?_
  refine lv_iconst (v := 0) hx hb dX6_allPowers_8 (by decide) ?_
  refine dp_iald hx hb hK hM.2.2.2.2.2.1 0 rfl 0 rfl (by decide) (by decide) dX6_allPowers_9 ?_
  refine lv_aload_n hx hb dX6_allPowers_10 rfl (lv_at hl 0 rfl) ?_
  refine dp_get hx hb hts (dp_hin 41 rfl) hown hK hM.1 rfl 7 (by decide) (hts (.fieldLink RX6 22 "DroopBoardModel" "powers" "[I") (List.mem_of_getElem? (i := 1) rfl)) rfl dX6_allPowers_11 ?_
  refine lv_iconst (v := 1) hx hb dX6_allPowers_14 (by decide) ?_
  refine dp_iald hx hb hK hM.2.2.2.2.2.1 0 rfl 1 rfl (by decide) (by decide) dX6_allPowers_15 ?_
  refine lv_iadd hx hb dX6_allPowers_16 ?_
  refine lv_aload_n hx hb dX6_allPowers_17 rfl (lv_at hl 0 rfl) ?_
  refine dp_get hx hb hts (dp_hin 41 rfl) hown hK hM.1 rfl 7 (by decide) (hts (.fieldLink RX6 22 "DroopBoardModel" "powers" "[I") (List.mem_of_getElem? (i := 1) rfl)) rfl dX6_allPowers_18 ?_
  refine lv_iconst (v := 2) hx hb dX6_allPowers_21 (by decide) ?_
  refine dp_iald hx hb hK hM.2.2.2.2.2.1 0 rfl 2 rfl (by decide) (by decide) dX6_allPowers_22 ?_
  refine lv_iadd hx hb dX6_allPowers_23 ?_
  exact W.iret hx hb hr (fun t ht hW => ⟨⟨((P 0) + (P 1)) + (P 2), H1, rfl, ⟨by rw [← psum3, hP 0 (by decide), hP 1 (by decide), hP 2 (by decide)], _, _, hM⟩, ht⟩, hS.F ht⟩) hS.2.2 dX6_allPowers_24

set_option maxHeartbeats 600000 in
set_option maxRecDepth 100000 in
theorem c_X6_lacks (l : Launch) (D : va_G) (G : Nat → ClassId) (μ : Nat → Nat) (R S N E P B L1 L2 L3 : Nat → Int32) (sm kp th la ln sp od : Int32) (hs : Int64)  (H : Heap) (hμ : inj 10 μ) (hM : MO D G μ R S N E P B L1 L2 L3 sm kp th la ln sp od hs H) (hwz : wz R) : Met l yX6_lacks wsX6_lacks ({ frames := 6, cells := 0, slots := 0, locals := 131 } : Room) (va_Pc [.ref (μ 0)] (CX D G H)) (QI (A6 μ) (fun r h => lk R (fq R) = r ∧ MP D G μ R S N E B L1 L2 L3 sm kp th ln sp od hs h)) 0 0 (A6 μ) := by
  refine Met.ofW (cc := cX6_lacks) (maxL := 1) (ret := (some .int)) (by decide) rfl ?_
  intro p e s m args below meth c s₁ B0 hml hv
  obtain ⟨rfl, rfl, hK, hN⟩ := hv
  have hx := B0.exec
  have hb := B0.bytes
  have hr := B0.returns
  have hts := atoms_spec (ws := wsX6_lacks) B0.pre
  have hown : s.vm.findClass RX6 = some m.cls := findClass_of_methodNamed B0.named
  have hlocks := B0.notSynchronized
  have hF : CallFix p m c cX6_lacks 1 s ([.ref (μ 0)] : List Value).toArray wsX6_lacks RX6 := ⟨hx, hb, hml, hown, hts⟩
  have hS : va_S (A6 μ) s.heap s.heap [] := va_S.rf
  have hl := lv_entry ([.ref (μ 0)]) (n := 1) (Nat.le_of_ble_eq_true rfl)
  rw [lg_entry_eq]
  generalize (lg_sl ([.ref (μ 0)]) ++ List.replicate (1 - (lg_sl ([.ref (μ 0)])).length) Slot.unset).toArray = ls at hl ⊢
  have hl : lv_has ls 1 [(0, .ref (μ 0))] := hl
  refine lv_aload_n hx hb dX6_lacks_0 rfl (lv_at hl 0 rfl) ?_
  refine dp_Vv hF hK hN (c_X6_find l D G μ R S N E P B L1 L2 L3 sm kp th la ln sp od hs _ hμ hM hwz) (cwV 0 hts gX6_lacks_X6_find rfl rfl rfl (by decide +kernel) ⟨Nat.le_of_ble_eq_true rfl, Nat.le_of_ble_eq_true rfl⟩) (dp_recv hK hM.1 rfl) hS (fun q hq => hq) [] rfl rfl hl.1 (Nat.le_of_ble_eq_true rfl) dX6_lacks_1 ⟨Nat.le_of_ble_eq_true rfl, Nat.le_of_ble_eq_true rfl⟩ (fun H1 locs hp hzH1 hkH1 hS => ?_)
  obtain ⟨P, hP, hM⟩ := hp
  refine lv_aload_n hx hb dX6_lacks_4 rfl (lv_at hl 0 rfl) ?_
  refine dp_get hx hb hts (dp_hin 41 rfl) hown hK hM.1 rfl 8 (by decide) (hts (.fieldLink RX6 80 "DroopBoardModel" "lack" "I") (List.mem_of_getElem? (i := 1) rfl)) rfl dX6_lacks_5 ?_
  exact W.iret hx hb hr (fun t ht hW => ⟨⟨lk R (fq R), H1, rfl, ⟨rfl, _, _, hM⟩, ht⟩, hS.F ht⟩) hS.2.2 dX6_lacks_8

set_option maxHeartbeats 600000 in
set_option maxRecDepth 100000 in
theorem c_X6_putAside (l : Launch) (D : va_G) (G : Nat → ClassId) (μ : Nat → Nat) (R S N E P B L1 L2 L3 : Nat → Int32) (sm kp th la ln sp od : Int32) (hs : Int64)  (H : Heap) (hμ : inj 10 μ) (hM : MO D G μ R S N E P B L1 L2 L3 sm kp th la ln sp od hs H) : Met l yX6_putAside wsX6_putAside ({ frames := 0, cells := 0, slots := 0, locals := 0 } : Room) (va_Pc [.ref (μ 0)] (CX D G H)) (QV (A6 μ) (fun h => MO D G μ R S N R P B L1 L2 L3 sm kp th la ln sp od hs h)) 0 0 (A6 μ) := by
  refine Met.ofW (cc := cX6_putAside) (maxL := 2) (ret := none) (by decide) rfl ?_
  intro p e s m args below meth c s₁ B0 hml hv
  obtain ⟨rfl, rfl, hK, hN⟩ := hv
  have hx := B0.exec
  have hb := B0.bytes
  have hr := B0.returns
  have hts := atoms_spec (ws := wsX6_putAside) B0.pre
  have hown : s.vm.findClass RX6 = some m.cls := findClass_of_methodNamed B0.named
  have hlocks := B0.notSynchronized
  have hF : CallFix p m c cX6_putAside 2 s ([.ref (μ 0)] : List Value).toArray wsX6_putAside RX6 := ⟨hx, hb, hml, hown, hts⟩
  have hS : va_S (A6 μ) s.heap s.heap [] := va_S.rf
  have hl := lv_entry ([.ref (μ 0)]) (n := 2) (Nat.le_of_ble_eq_true rfl)
  rw [lg_entry_eq]
  generalize (lg_sl ([.ref (μ 0)]) ++ List.replicate (2 - (lg_sl ([.ref (μ 0)])).length) Slot.unset).toArray = ls at hl ⊢
  have hl : lv_has ls 2 [(0, .ref (μ 0))] := hl
  refine lv_iconst (v := 0) hx hb dX6_putAside_0 (by decide) ?_
  refine lv_istore_n (lv' := [(1, .int 0), (0, .ref (μ 0))]) hx hb dX6_putAside_1 rfl hl (by decide) rfl (fun ls hl => ?_)
  have loop2 : ∀ (m9 : Nat) (i : Nat) (Hh : Heap) (_ : i + m9 = 50) (_ : MO D G μ R S N (fst6 R E i) P B L1 L2 L3 sm kp th la ln sp od hs Hh) (locs : List Loc) (_ : va_S (A6 μ) s.heap Hh locs) (ls : Array Slot) (_ : lv_has ls 2 [(0, .ref (μ 0)), (1, .int (nI i))]), W p l e (headSpec wsX6_putAside ({ frames := 0, cells := 0, slots := 0, locals := 0 } : Room)).room s m ([.ref (μ 0)] : List Value).toArray below meth c Hh locs 0 0 (MQ below (QV (A6 μ) (fun h => MO D G μ R S N R P B L1 L2 L3 sm kp th la ln sp od hs h)) ([.ref (μ 0)] : List Value).toArray s 0 0 (A6 μ)) (F0 m 2 ls []) := by
    intro m9
    induction m9 with
    | zero =>
      intro i Hh hin hM locs hS ls hl
      have hM := mo_congE hM (fun j hj => fst6_e (show j < i by omega))
      refine lv_iload_n hx hb dX6_putAside_2 rfl (lv_at hl 1 rfl) ?_
      refine lv_bipush (v := 50) hx hb dX6_putAside_3 (by decide) ?_
      refine lv_icmp_ge (tgt := 26) hx hb dX6_putAside_5 (by decide) (fun c1 => ?_) (fun c1 => absurd (nI_le (a := 50) (b := i) (by omega) (by omega)) c1)
      exact W.vret hx hb hr (fun t ht hW => ⟨⟨Hh, rfl, hM, ht⟩, hS.F ht⟩) hS.2.2 dX6_putAside_26
    | succ m9 ih2 =>
      intro i Hh hin hM locs hS ls hl
      refine lv_iload_n hx hb dX6_putAside_2 rfl (lv_at hl 1 rfl) ?_
      refine lv_bipush (v := 50) hx hb dX6_putAside_3 (by decide) ?_
      refine lv_icmp_ge (tgt := 26) hx hb dX6_putAside_5 (by decide) (fun c2 => absurd c2 (nI_ge (a := i) (b := 50) (by omega) (by omega))) (fun c2 => ?_)
      refine lv_aload_n hx hb dX6_putAside_8 rfl (lv_at hl 0 rfl) ?_
      refine dp_get hx hb hts (dp_hin 3 rfl) hown hK hM.1 rfl 5 (by decide) (hts (.fieldLink RX6 19 "DroopBoardModel" "aside" "[I") (List.mem_of_getElem? (i := 1) rfl)) rfl dX6_putAside_9 ?_
      refine lv_iload_n hx hb dX6_putAside_12 rfl (lv_at hl 1 rfl) ?_
      refine lv_aload_n hx hb dX6_putAside_13 rfl (lv_at hl 0 rfl) ?_
      refine dp_get hx hb hts (dp_hin 3 rfl) hown hK hM.1 rfl 0 (by decide) (hts (.fieldLink RX6 7 "DroopBoardModel" "row" "[I") (List.mem_of_getElem? (i := 2) rfl)) rfl dX6_putAside_14 ?_
      refine lv_iload_n hx hb dX6_putAside_17 rfl (lv_at hl 1 rfl) ?_
      refine dp_iald hx hb hK hM.2.1 0 rfl i rfl (by omega) (by decide) dX6_putAside_18 ?_
      refine dp_iast (A := A6 μ) hx hb hK hM.2.2.2.2.1 (⟨4, by decide, rfl⟩ : A6 μ (μ 4)) hS 0 rfl i rfl (by omega) (by decide) dX6_putAside_19 (fun H1 locs hH1 hzH1 hkH1 hS => ?_)
      have hM := hM.a4 (X' := upd (fst6 R E i) i (R i)) hμ hH1 hkH1
      refine lv_iinc (v := nI (i + 1)) (lv' := [(1, .int (nI (i + 1))), (0, .ref (μ 0))]) hx hb dX6_putAside_20 hl (k := 1) rfl (nI_1 i) (by decide) rfl (fun ls hl => ?_)
      refine lv_goto (tgt := 2) hx hb dX6_putAside_23 (by decide) ?_
      exact ih2 (i + 1) H1 (by omega) (by rw [← fst6_s]; exact hM) _ hS _ (lv_sub hl [1, 0] rfl)
  exact loop2 50 0 s.heap rfl (by rw [fst6_0]; exact hM) _ hS _ (lv_sub hl [1, 0] rfl)

set_option maxHeartbeats 600000 in
set_option maxRecDepth 100000 in
theorem c_X6_putBack (l : Launch) (D : va_G) (G : Nat → ClassId) (μ : Nat → Nat) (R S N E P B L1 L2 L3 : Nat → Int32) (sm kp th la ln sp od : Int32) (hs : Int64)  (H : Heap) (hμ : inj 10 μ) (hM : MO D G μ R S N E P B L1 L2 L3 sm kp th la ln sp od hs H) : Met l yX6_putBack wsX6_putBack ({ frames := 0, cells := 0, slots := 0, locals := 0 } : Room) (va_Pc [.ref (μ 0)] (CX D G H)) (QV (A6 μ) (fun h => MO D G μ E S N E P B L1 L2 L3 sm kp th la ln sp od hs h)) 0 0 (A6 μ) := by
  refine Met.ofW (cc := cX6_putBack) (maxL := 2) (ret := none) (by decide) rfl ?_
  intro p e s m args below meth c s₁ B0 hml hv
  obtain ⟨rfl, rfl, hK, hN⟩ := hv
  have hx := B0.exec
  have hb := B0.bytes
  have hr := B0.returns
  have hts := atoms_spec (ws := wsX6_putBack) B0.pre
  have hown : s.vm.findClass RX6 = some m.cls := findClass_of_methodNamed B0.named
  have hlocks := B0.notSynchronized
  have hF : CallFix p m c cX6_putBack 2 s ([.ref (μ 0)] : List Value).toArray wsX6_putBack RX6 := ⟨hx, hb, hml, hown, hts⟩
  have hS : va_S (A6 μ) s.heap s.heap [] := va_S.rf
  have hl := lv_entry ([.ref (μ 0)]) (n := 2) (Nat.le_of_ble_eq_true rfl)
  rw [lg_entry_eq]
  generalize (lg_sl ([.ref (μ 0)]) ++ List.replicate (2 - (lg_sl ([.ref (μ 0)])).length) Slot.unset).toArray = ls at hl ⊢
  have hl : lv_has ls 2 [(0, .ref (μ 0))] := hl
  refine lv_iconst (v := 0) hx hb dX6_putBack_0 (by decide) ?_
  refine lv_istore_n (lv' := [(1, .int 0), (0, .ref (μ 0))]) hx hb dX6_putBack_1 rfl hl (by decide) rfl (fun ls hl => ?_)
  have loop2 : ∀ (m9 : Nat) (i : Nat) (Hh : Heap) (_ : i + m9 = 50) (_ : MO D G μ (fst6 E R i) S N E P B L1 L2 L3 sm kp th la ln sp od hs Hh) (locs : List Loc) (_ : va_S (A6 μ) s.heap Hh locs) (ls : Array Slot) (_ : lv_has ls 2 [(0, .ref (μ 0)), (1, .int (nI i))]), W p l e (headSpec wsX6_putBack ({ frames := 0, cells := 0, slots := 0, locals := 0 } : Room)).room s m ([.ref (μ 0)] : List Value).toArray below meth c Hh locs 0 0 (MQ below (QV (A6 μ) (fun h => MO D G μ E S N E P B L1 L2 L3 sm kp th la ln sp od hs h)) ([.ref (μ 0)] : List Value).toArray s 0 0 (A6 μ)) (F0 m 2 ls []) := by
    intro m9
    induction m9 with
    | zero =>
      intro i Hh hin hM locs hS ls hl
      have hM := mo_congR hM (fun j hj => fst6_e (show j < i by omega))
      refine lv_iload_n hx hb dX6_putBack_2 rfl (lv_at hl 1 rfl) ?_
      refine lv_bipush (v := 50) hx hb dX6_putBack_3 (by decide) ?_
      refine lv_icmp_ge (tgt := 26) hx hb dX6_putBack_5 (by decide) (fun c1 => ?_) (fun c1 => absurd (nI_le (a := 50) (b := i) (by omega) (by omega)) c1)
      exact W.vret hx hb hr (fun t ht hW => ⟨⟨Hh, rfl, hM, ht⟩, hS.F ht⟩) hS.2.2 dX6_putBack_26
    | succ m9 ih2 =>
      intro i Hh hin hM locs hS ls hl
      refine lv_iload_n hx hb dX6_putBack_2 rfl (lv_at hl 1 rfl) ?_
      refine lv_bipush (v := 50) hx hb dX6_putBack_3 (by decide) ?_
      refine lv_icmp_ge (tgt := 26) hx hb dX6_putBack_5 (by decide) (fun c2 => absurd c2 (nI_ge (a := i) (b := 50) (by omega) (by omega))) (fun c2 => ?_)
      refine lv_aload_n hx hb dX6_putBack_8 rfl (lv_at hl 0 rfl) ?_
      refine dp_get hx hb hts (dp_hin 3 rfl) hown hK hM.1 rfl 0 (by decide) (hts (.fieldLink RX6 7 "DroopBoardModel" "row" "[I") (List.mem_of_getElem? (i := 1) rfl)) rfl dX6_putBack_9 ?_
      refine lv_iload_n hx hb dX6_putBack_12 rfl (lv_at hl 1 rfl) ?_
      refine lv_aload_n hx hb dX6_putBack_13 rfl (lv_at hl 0 rfl) ?_
      refine dp_get hx hb hts (dp_hin 3 rfl) hown hK hM.1 rfl 5 (by decide) (hts (.fieldLink RX6 19 "DroopBoardModel" "aside" "[I") (List.mem_of_getElem? (i := 2) rfl)) rfl dX6_putBack_14 ?_
      refine lv_iload_n hx hb dX6_putBack_17 rfl (lv_at hl 1 rfl) ?_
      refine dp_iald hx hb hK hM.2.2.2.2.1 0 rfl i rfl (by omega) (by decide) dX6_putBack_18 ?_
      refine dp_iast (A := A6 μ) hx hb hK hM.2.1 (⟨1, by decide, rfl⟩ : A6 μ (μ 1)) hS 0 rfl i rfl (by omega) (by decide) dX6_putBack_19 (fun H1 locs hH1 hzH1 hkH1 hS => ?_)
      have hM := hM.a1 (X' := upd (fst6 E R i) i (E i)) hμ hH1 hkH1
      refine lv_iinc (v := nI (i + 1)) (lv' := [(1, .int (nI (i + 1))), (0, .ref (μ 0))]) hx hb dX6_putBack_20 hl (k := 1) rfl (nI_1 i) (by decide) rfl (fun ls hl => ?_)
      refine lv_goto (tgt := 2) hx hb dX6_putBack_23 (by decide) ?_
      exact ih2 (i + 1) H1 (by omega) (by rw [← fst6_s]; exact hM) _ hS _ (lv_sub hl [1, 0] rfl)
  exact loop2 50 0 s.heap rfl (by rw [fst6_0]; exact hM) _ hS _ (lv_sub hl [1, 0] rfl)

set_option maxHeartbeats 600000 in
set_option maxRecDepth 100000 in
theorem c_X6_ratings (l : Launch) (D : va_G) (G : Nat → ClassId) (μ : Nat → Nat) (R S N E P B L1 L2 L3 : Nat → Int32) (sm kp th la ln sp od : Int32) (hs : Int64)  (H : Heap) (hμ : inj 10 μ) (hM : MO D G μ R S N E P B L1 L2 L3 sm kp th la ln sp od hs H) (hbz : bz R) : Met l yX6_ratings wsX6_ratings ({ frames := 1, cells := 0, slots := 0, locals := 22 } : Room) (va_Pc [.ref (μ 0)] (CX D G H)) (QI nA (fun r h => H = h ∧ rat R 3 = r)) 0 0 (nA) := by
  refine Met.ofW (cc := cX6_ratings) (maxL := 3) (ret := (some .int)) (by decide) rfl ?_
  intro p e s m args below meth c s₁ B0 hml hv
  obtain ⟨rfl, rfl, hK, hN⟩ := hv
  have hx := B0.exec
  have hb := B0.bytes
  have hr := B0.returns
  have hts := atoms_spec (ws := wsX6_ratings) B0.pre
  have hown : s.vm.findClass RX6 = some m.cls := findClass_of_methodNamed B0.named
  have hlocks := B0.notSynchronized
  have hF : CallFix p m c cX6_ratings 3 s ([.ref (μ 0)] : List Value).toArray wsX6_ratings RX6 := ⟨hx, hb, hml, hown, hts⟩
  have hS : va_S (nA) s.heap s.heap [] := va_S.rf
  have hl := lv_entry ([.ref (μ 0)]) (n := 3) (Nat.le_of_ble_eq_true rfl)
  rw [lg_entry_eq]
  generalize (lg_sl ([.ref (μ 0)]) ++ List.replicate (3 - (lg_sl ([.ref (μ 0)])).length) Slot.unset).toArray = ls at hl ⊢
  have hl : lv_has ls 3 [(0, .ref (μ 0))] := hl
  refine lv_iconst (v := 0) hx hb dX6_ratings_0 (by decide) ?_
  refine lv_istore_n (lv' := [(1, .int 0), (0, .ref (μ 0))]) hx hb dX6_ratings_1 rfl hl (by decide) rfl (fun ls hl => ?_)
  refine lv_iconst (v := 0) hx hb dX6_ratings_2 (by decide) ?_
  refine lv_istore_n (lv' := [(2, .int 0), (1, .int 0), (0, .ref (μ 0))]) hx hb dX6_ratings_3 rfl hl (by decide) rfl (fun ls hl => ?_)
  have loop4 : ∀ (m9 : Nat) (i : Nat) (all : Int32) (_ : i + m9 = 3) (_ : all = rat R i) (locs : List Loc) (_ : va_S (nA) s.heap s.heap locs) (ls : Array Slot) (_ : lv_has ls 3 [(0, .ref (μ 0)), (1, .int all), (2, .int (nI i))]), W p l e (headSpec wsX6_ratings ({ frames := 1, cells := 0, slots := 0, locals := 22 } : Room)).room s m ([.ref (μ 0)] : List Value).toArray below meth c s.heap locs 0 0 (MQ below (QI nA (fun r h => s.heap = h ∧ rat R 3 = r)) ([.ref (μ 0)] : List Value).toArray s 0 0 (nA)) (F0 m 4 ls []) := by
    intro m9
    induction m9 with
    | zero =>
      intro i all hin hacc locs hS ls hl
      refine lv_iload_n hx hb dX6_ratings_4 rfl (lv_at hl 2 rfl) ?_
      refine lv_iconst (v := 3) hx hb dX6_ratings_5 (by decide) ?_
      refine lv_icmp_ge (tgt := 31) hx hb dX6_ratings_6 (by decide) (fun c1 => ?_) (fun c1 => absurd (nI_le (a := 3) (b := i) (by omega) (by omega)) c1)
      refine lv_iload_n hx hb dX6_ratings_31 rfl (lv_at hl 1 rfl) ?_
      exact W.iret hx hb hr (fun t ht hW => ⟨⟨all, s.heap, rfl, ⟨rfl, by rw [hacc, show i = 3 by omega]⟩, ht⟩, hS.F ht⟩) hS.2.2 dX6_ratings_32
    | succ m9 ih4 =>
      intro i all hin hacc locs hS ls hl
      refine lv_iload_n hx hb dX6_ratings_4 rfl (lv_at hl 2 rfl) ?_
      refine lv_iconst (v := 3) hx hb dX6_ratings_5 (by decide) ?_
      refine lv_icmp_ge (tgt := 31) hx hb dX6_ratings_6 (by decide) (fun c2 => absurd c2 (nI_ge (a := i) (b := 3) (by omega) (by omega))) (fun c2 => ?_)
      refine lv_iload_n hx hb dX6_ratings_9 rfl (lv_at hl 1 rfl) ?_
      refine lv_aload_n hx hb dX6_ratings_10 rfl (lv_at hl 0 rfl) ?_
      refine lv_iload_n hx hb dX6_ratings_11 rfl (lv_at hl 2 rfl) ?_
      refine lv_iconst (v := 4) hx hb dX6_ratings_12 (by decide) ?_
      refine dp_Vi hF hK hN (c_X6_of l D G μ R S N E P B L1 L2 L3 sm kp th la ln sp od hs i 4 12 _ hμ hM (by omega) (by decide) rfl) (cwV 2 hts gX6_ratings_X6_of rfl rfl rfl (by decide +kernel) ⟨Nat.le_of_ble_eq_true rfl, Nat.le_of_ble_eq_true rfl⟩) (dp_recv hK hM.1 rfl) hS nA_i [.int all] rfl rfl hl.1 (Nat.le_of_ble_eq_true rfl) dX6_ratings_13 ⟨Nat.le_of_ble_eq_true rfl, Nat.le_of_ble_eq_true rfl⟩ (fun rH1 H1 locs hp hzH1 hkH1 hS => ?_)
      obtain ⟨rfl, rfl⟩ := hp
      refine lv_aload_n hx hb dX6_ratings_16 rfl (lv_at hl 0 rfl) ?_
      refine lv_iload_n hx hb dX6_ratings_17 rfl (lv_at hl 2 rfl) ?_
      refine lv_iconst (v := 0) hx hb dX6_ratings_18 (by decide) ?_
      refine dp_Vi hF hK hN (c_X6_of l D G μ R S N E P B L1 L2 L3 sm kp th la ln sp od hs i 0 8 _ hμ hM (by omega) (by decide) rfl) (cwV 2 hts gX6_ratings_X6_of rfl rfl rfl (by decide +kernel) ⟨Nat.le_of_ble_eq_true rfl, Nat.le_of_ble_eq_true rfl⟩) (dp_recv hK hM.1 rfl) hS nA_i [.int (R (12 + 10 * i)), .int all] rfl rfl hl.1 (Nat.le_of_ble_eq_true rfl) dX6_ratings_19 ⟨Nat.le_of_ble_eq_true rfl, Nat.le_of_ble_eq_true rfl⟩ (fun rH2 H2 locs hp hzH2 hkH2 hS => ?_)
      obtain ⟨rfl, rfl⟩ := hp
      refine lv_imul hx hb dX6_ratings_22 ?_
      refine lv_iadd hx hb dX6_ratings_23 ?_
      refine lv_istore_n (lv' := [(1, .int (all + ((R (12 + 10 * i)) * (R (8 + 10 * i))))), (0, .ref (μ 0)), (2, .int (nI i))]) hx hb dX6_ratings_24 rfl hl (by decide) rfl (fun ls hl => ?_)
      refine lv_iinc (v := nI (i + 1)) (lv' := [(2, .int (nI (i + 1))), (1, .int (all + ((R (12 + 10 * i)) * (R (8 + 10 * i))))), (0, .ref (μ 0))]) hx hb dX6_ratings_25 hl (k := 2) rfl (nI_1 i) (by decide) rfl (fun ls hl => ?_)
      refine lv_goto (tgt := 4) hx hb dX6_ratings_28 (by decide) ?_
      exact ih4 (i + 1) (all + ((R (12 + 10 * i)) * (R (8 + 10 * i)))) (by omega) (by rw [hacc]; exact rat_s hbz (by omega)) _ hS _ (lv_sub hl [2, 1, 0] rfl)
  exact loop4 3 0 0 rfl rfl _ hS _ (lv_sub hl [2, 1, 0] rfl)

set_option maxHeartbeats 600000 in
set_option maxRecDepth 100000 in
theorem c_X6_shed (l : Launch) (D : va_G) (G : Nat → ClassId) (μ : Nat → Nat) (R S N E P B L1 L2 L3 : Nat → Int32) (sm kp th la ln sp od : Int32) (hs : Int64)  (H : Heap) (hμ : inj 10 μ) (hM : MO D G μ R S N E P B L1 L2 L3 sm kp th la ln sp od hs H) (hbz : bz R) : Met l yX6_shed wsX6_shed ({ frames := 1, cells := 0, slots := 0, locals := 22 } : Room) (va_Pc [.ref (μ 0)] (CX D G H)) (QV (A6 μ) (fun h => MO D G μ (shd R) S N E P B L1 L2 L3 sm kp th la ln sp od hs h)) 0 0 (A6 μ) := by
  refine Met.ofW (cc := cX6_shed) (maxL := 3) (ret := none) (by decide) rfl ?_
  intro p e s m args below meth c s₁ B0 hml hv
  obtain ⟨rfl, rfl, hK, hN⟩ := hv
  have hx := B0.exec
  have hb := B0.bytes
  have hr := B0.returns
  have hts := atoms_spec (ws := wsX6_shed) B0.pre
  have hown : s.vm.findClass RX6 = some m.cls := findClass_of_methodNamed B0.named
  have hlocks := B0.notSynchronized
  have hF : CallFix p m c cX6_shed 3 s ([.ref (μ 0)] : List Value).toArray wsX6_shed RX6 := ⟨hx, hb, hml, hown, hts⟩
  have hS : va_S (A6 μ) s.heap s.heap [] := va_S.rf
  have hl := lv_entry ([.ref (μ 0)]) (n := 3) (Nat.le_of_ble_eq_true rfl)
  rw [lg_entry_eq]
  generalize (lg_sl ([.ref (μ 0)]) ++ List.replicate (3 - (lg_sl ([.ref (μ 0)])).length) Slot.unset).toArray = ls at hl ⊢
  have hl : lv_has ls 3 [(0, .ref (μ 0))] := hl
  refine lv_iconst (v := (-1)) hx hb dX6_shed_0 (by decide) ?_
  refine lv_istore_n (lv' := [(1, .int (-1)), (0, .ref (μ 0))]) hx hb dX6_shed_1 rfl hl (by decide) rfl (fun ls hl => ?_)
  refine lv_iconst (v := 0) hx hb dX6_shed_2 (by decide) ?_
  refine lv_istore_n (lv' := [(2, .int 0), (1, .int (-1)), (0, .ref (μ 0))]) hx hb dX6_shed_3 rfl hl (by decide) rfl (fun ls hl => ?_)
  have loop4 : ∀ (m9 : Nat) (i : Nat) (la9 : Int32) (_ : i + m9 = 4) (_ : la9 + 1 = nI (shk R i)) (locs : List Loc) (_ : va_S (A6 μ) s.heap s.heap locs) (ls : Array Slot) (_ : lv_has ls 3 [(0, .ref (μ 0)), (1, .int la9), (2, .int (nI i))]), W p l e (headSpec wsX6_shed ({ frames := 1, cells := 0, slots := 0, locals := 22 } : Room)).room s m ([.ref (μ 0)] : List Value).toArray below meth c s.heap locs 0 0 (MQ below (QV (A6 μ) (fun h => MO D G μ (shd R) S N E P B L1 L2 L3 sm kp th la ln sp od hs h)) ([.ref (μ 0)] : List Value).toArray s 0 0 (A6 μ)) (F0 m 4 ls []) := by
    intro m9
    induction m9 with
    | zero =>
      intro i la9 hin hla locs hS ls hl
      rw [show i = 4 by omega] at hla
      refine lv_iload_n hx hb dX6_shed_4 rfl (lv_at hl 2 rfl) ?_
      refine lv_iconst (v := 4) hx hb dX6_shed_5 (by decide) ?_
      refine lv_icmp_ge (tgt := 40) hx hb dX6_shed_6 (by decide) (fun c1 => ?_) (fun c1 => absurd (nI_le (a := 4) (b := i) (by omega) (by omega)) c1)
      refine lv_iload_n hx hb dX6_shed_40 rfl (lv_at hl 1 rfl) ?_
      refine lv_iconst (v := (-1)) hx hb dX6_shed_41 (by decide) ?_
      refine lv_icmp_eq (tgt := 87) hx hb dX6_shed_42 (by decide) (fun c2 => ?_) (fun c2 => ?_)
      · exact W.vret hx hb hr (fun t ht hW => ⟨⟨s.heap, rfl, by rw [sh_0 (sh_no (by rw [← hla, c2]; decide))]; exact hM, ht⟩, hS.F ht⟩) hS.2.2 dX6_shed_87
      obtain ⟨k, hk⟩ : ∃ k, shk R 4 = k + 1 := by rcases Nat.eq_zero_or_pos (shk R 4) with q | q; exact absurd (neg1 (by rw [hla, q])) c2; exact ⟨shk R 4 - 1, by omega⟩
      have hk4 := shk_le R 4
      obtain rfl : la9 = nI k := one_off (by rw [hla, hk])
      refine lv_aload_n hx hb dX6_shed_45 rfl (lv_at hl 0 rfl) ?_
      refine dp_get hx hb hts (dp_hin 7 rfl) hown hK hM.1 rfl 0 (by decide) (hts (.fieldLink RX6 7 "DroopBoardModel" "row" "[I") (List.mem_of_getElem? (i := 1) rfl)) rfl dX6_shed_46 ?_
      refine lv_bipush (v := 38) hx hb dX6_shed_49 (by decide) ?_
      refine lv_iconst (v := 3) hx hb dX6_shed_51 (by decide) ?_
      refine lv_iload_n hx hb dX6_shed_52 rfl (lv_at hl 1 rfl) ?_
      refine lv_imul hx hb dX6_shed_53 ?_
      refine lv_iadd hx hb dX6_shed_54 ?_
      refine lv_iconst (v := 1) hx hb dX6_shed_55 (by decide) ?_
      refine lv_iadd hx hb dX6_shed_56 ?_
      rw [mI_l1 k]
      refine lv_iconst (v := 0) hx hb dX6_shed_57 (by decide) ?_
      refine dp_iast (A := A6 μ) hx hb hK hM.2.1 (⟨1, by decide, rfl⟩ : A6 μ (μ 1)) hS 0 rfl ((39 + 3 * k)) rfl (by omega) (by decide) dX6_shed_58 (fun H1 locs hH1 hzH1 hkH1 hS => ?_)
      have hM := hM.a1 (X' := upd R ((39 + 3 * k)) 0) hμ hH1 hkH1
      refine lv_aload_n hx hb dX6_shed_59 rfl (lv_at hl 0 rfl) ?_
      refine dp_get hx hb hts (dp_hin 7 rfl) hown hK hM.1 rfl 0 (by decide) (hts (.fieldLink RX6 7 "DroopBoardModel" "row" "[I") (List.mem_of_getElem? (i := 1) rfl)) rfl dX6_shed_60 ?_
      refine lv_bipush (v := 38) hx hb dX6_shed_63 (by decide) ?_
      refine lv_iconst (v := 3) hx hb dX6_shed_65 (by decide) ?_
      refine lv_iload_n hx hb dX6_shed_66 rfl (lv_at hl 1 rfl) ?_
      refine lv_imul hx hb dX6_shed_67 ?_
      refine lv_iadd hx hb dX6_shed_68 ?_
      refine lv_iconst (v := 2) hx hb dX6_shed_69 (by decide) ?_
      refine lv_iadd hx hb dX6_shed_70 ?_
      rw [mI_l2 k]
      refine lv_dup2_11 hx hb dX6_shed_71 rfl rfl ?_
      refine dp_iald hx hb hK hM.2.1 0 rfl ((40 + 3 * k)) rfl (by omega) (by decide) dX6_shed_72 ?_
      refine lv_iconst (v := 1) hx hb dX6_shed_73 (by decide) ?_
      refine lv_iadd hx hb dX6_shed_74 ?_
      refine dp_iast (A := A6 μ) hx hb hK hM.2.1 (⟨1, by decide, rfl⟩ : A6 μ (μ 1)) hS 0 rfl ((40 + 3 * k)) rfl (by omega) (by decide) dX6_shed_75 (fun H2 locs hH2 hzH2 hkH2 hS => ?_)
      have hM := hM.a1 (X' := upd (upd R ((39 + 3 * k)) 0) ((40 + 3 * k)) (((upd R ((39 + 3 * k)) 0) ((40 + 3 * k))) + 1)) hμ hH2 hkH2
      refine lv_aload_n hx hb dX6_shed_76 rfl (lv_at hl 0 rfl) ?_
      refine dp_get hx hb hts (dp_hin 7 rfl) hown hK hM.1 rfl 0 (by decide) (hts (.fieldLink RX6 7 "DroopBoardModel" "row" "[I") (List.mem_of_getElem? (i := 1) rfl)) rfl dX6_shed_77 ?_
      refine lv_bipush (v := 6) hx hb dX6_shed_80 (by decide) ?_
      refine lv_dup2_11 hx hb dX6_shed_82 rfl rfl ?_
      refine dp_iald hx hb hK hM.2.1 0 rfl 6 rfl (by decide) (by decide) dX6_shed_83 ?_
      refine lv_iconst (v := 1) hx hb dX6_shed_84 (by decide) ?_
      refine lv_iadd hx hb dX6_shed_85 ?_
      refine dp_iast (A := A6 μ) hx hb hK hM.2.1 (⟨1, by decide, rfl⟩ : A6 μ (μ 1)) hS 0 rfl 6 rfl (by decide) (by decide) dX6_shed_86 (fun H3 locs hH3 hzH3 hkH3 hS => ?_)
      have hM := hM.a1 (X' := upd (upd (upd R ((39 + 3 * k)) 0) ((40 + 3 * k)) (((upd R ((39 + 3 * k)) 0) ((40 + 3 * k))) + 1)) 6 (((upd (upd R ((39 + 3 * k)) 0) ((40 + 3 * k)) (((upd R ((39 + 3 * k)) 0) ((40 + 3 * k))) + 1)) 6) + 1)) hμ hH3 hkH3
      exact W.vret hx hb hr (fun t ht hW => ⟨⟨H3, rfl, by rw [← sh_x hk]; exact hM, ht⟩, hS.F ht⟩) hS.2.2 dX6_shed_87
    | succ m9 ih4 =>
      intro i la9 hin hla locs hS ls hl
      refine lv_iload_n hx hb dX6_shed_4 rfl (lv_at hl 2 rfl) ?_
      refine lv_iconst (v := 4) hx hb dX6_shed_5 (by decide) ?_
      refine lv_icmp_ge (tgt := 40) hx hb dX6_shed_6 (by decide) (fun c3 => absurd c3 (nI_ge (a := i) (b := 4) (by omega) (by omega))) (fun c3 => ?_)
      refine lv_aload_n hx hb dX6_shed_9 rfl (lv_at hl 0 rfl) ?_
      refine lv_iload_n hx hb dX6_shed_10 rfl (lv_at hl 2 rfl) ?_
      refine lv_iconst (v := 1) hx hb dX6_shed_11 (by decide) ?_
      refine dp_Vi hF hK hN (c_X6_ofLine l D G μ R S N E P B L1 L2 L3 sm kp th la ln sp od hs i 1 39 _ hμ hM (by omega) (by decide) rfl) (cwV 2 hts gX6_shed_X6_ofLine rfl rfl rfl (by decide +kernel) ⟨Nat.le_of_ble_eq_true rfl, Nat.le_of_ble_eq_true rfl⟩) (dp_recv hK hM.1 rfl) hS nA_i [] rfl rfl hl.1 (Nat.le_of_ble_eq_true rfl) dX6_shed_12 ⟨Nat.le_of_ble_eq_true rfl, Nat.le_of_ble_eq_true rfl⟩ (fun rH4 H4 locs hp hzH4 hkH4 hS => ?_)
      obtain ⟨rfl, rfl⟩ := hp
      refine lv_iconst (v := 1) hx hb dX6_shed_15 (by decide) ?_
      refine lv_icmp_ne (tgt := 32) hx hb dX6_shed_16 (by decide) (fun c4 => ?_) (fun c4 => ?_)
      · refine lv_iload_n hx hb dX6_shed_32 rfl (lv_at hl 1 rfl) ?_
        refine lv_istore_n (lv' := [(1, .int la9), (0, .ref (μ 0)), (2, .int (nI i))]) hx hb dX6_shed_33 rfl hl (by decide) rfl (fun ls hl => ?_)
        refine lv_iinc (v := nI (i + 1)) (lv' := [(2, .int (nI (i + 1))), (1, .int la9), (0, .ref (μ 0))]) hx hb dX6_shed_34 hl (k := 2) rfl (nI_1 i) (by decide) rfl (fun ls hl => ?_)
        refine lv_goto (tgt := 4) hx hb dX6_shed_37 (by decide) ?_
        exact ih4 (i + 1) la9 (by omega) (by rw [shk_n1 hbz (by omega) c4]; exact hla) _ hS _ (lv_sub hl [2, 1, 0] rfl)
      refine lv_aload_n hx hb dX6_shed_19 rfl (lv_at hl 0 rfl) ?_
      refine lv_iload_n hx hb dX6_shed_20 rfl (lv_at hl 2 rfl) ?_
      refine lv_iconst (v := 0) hx hb dX6_shed_21 (by decide) ?_
      refine dp_Vi hF hK hN (c_X6_ofLine l D G μ R S N E P B L1 L2 L3 sm kp th la ln sp od hs i 0 38 _ hμ hM (by omega) (by decide) rfl) (cwV 2 hts gX6_shed_X6_ofLine rfl rfl rfl (by decide +kernel) ⟨Nat.le_of_ble_eq_true rfl, Nat.le_of_ble_eq_true rfl⟩) (dp_recv hK hM.1 rfl) hS nA_i [] rfl rfl hl.1 (Nat.le_of_ble_eq_true rfl) dX6_shed_22 ⟨Nat.le_of_ble_eq_true rfl, Nat.le_of_ble_eq_true rfl⟩ (fun rH5 H5 locs hp hzH5 hkH5 hS => ?_)
      obtain ⟨rfl, rfl⟩ := hp
      refine lv_if_le (tgt := 32) hx hb dX6_shed_25 (by decide) (fun c5 => ?_) (fun c5 => ?_)
      · refine lv_iload_n hx hb dX6_shed_32 rfl (lv_at hl 1 rfl) ?_
        refine lv_istore_n (lv' := [(1, .int la9), (0, .ref (μ 0)), (2, .int (nI i))]) hx hb dX6_shed_33 rfl hl (by decide) rfl (fun ls hl => ?_)
        refine lv_iinc (v := nI (i + 1)) (lv' := [(2, .int (nI (i + 1))), (1, .int la9), (0, .ref (μ 0))]) hx hb dX6_shed_34 hl (k := 2) rfl (nI_1 i) (by decide) rfl (fun ls hl => ?_)
        refine lv_goto (tgt := 4) hx hb dX6_shed_37 (by decide) ?_
        exact ih4 (i + 1) la9 (by omega) (by rw [shk_n2 c5]; exact hla) _ hS _ (lv_sub hl [2, 1, 0] rfl)
      refine lv_iload_n hx hb dX6_shed_28 rfl (lv_at hl 2 rfl) ?_
      refine lv_goto (tgt := 33) hx hb dX6_shed_29 (by decide) ?_
      refine lv_istore_n (lv' := [(1, .int (nI i)), (0, .ref (μ 0)), (2, .int (nI i))]) hx hb dX6_shed_33 rfl hl (by decide) rfl (fun ls hl => ?_)
      refine lv_iinc (v := nI (i + 1)) (lv' := [(2, .int (nI (i + 1))), (1, .int (nI i)), (0, .ref (μ 0))]) hx hb dX6_shed_34 hl (k := 2) rfl (nI_1 i) (by decide) rfl (fun ls hl => ?_)
      refine lv_goto (tgt := 4) hx hb dX6_shed_37 (by decide) ?_
      exact ih4 (i + 1) (nI i) (by omega) (by rw [shk_y c4 c5]; exact nI_1 i) _ hS _ (lv_sub hl [2, 1, 0] rfl)
  exact loop4 4 0 ((-1)) rfl (show (-1 : Int32) + 1 = nI 0 by decide) _ hS _ (lv_sub hl [2, 1, 0] rfl)
