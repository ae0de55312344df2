set_option maxHeartbeats 600000 in
set_option maxRecDepth 100000 in
theorem c_X5_loadShare (l : Launch) (D : va_G) (G : Nat → ClassId) (α : Nat → Nat) (w : Nat → Nat) (R RT RS : Nat → Int32) (kp : Int32) (sv : Nat → Nat → Int32) (n : Nat) (F : Nat → Int32) (len : Nat)  (H : Heap) (hα : inj 115 α) (hw : pm w) (hD : DP D G α w R RT RS kp sv n F len H) (hbz : bz R) (hm : mono R) (hn6 : n ≤ 6) (hl6 : len ≤ 60) (hfd : ¬ rat R 3 = 0 → vf_n64 (FP.ddiv (FP.i2d (ld R)) (FP.i2d (rat R 3)))) : Met l yX5_loadShare wsX5_loadShare ({ frames := 2, cells := 0, slots := 0, locals := 43 } : Room) (va_Pc [.ref (α 0)] (CX D G H)) (QD nA (fun r h => H = h ∧ ldsh R = r)) 0 0 (nA) := by
  refine Met.ofW (cc := cX5_loadShare) (maxL := 2) (ret := (some .double)) (by decide) rfl ?_
  intro p e s m args below meth c s₁ B0 hml hv
  obtain ⟨rfl, rfl, hK, hN⟩ := hv
  have hx := B0.exec
  have hb := B0.bytes
  have hr := B0.returns
  have hts := atoms_spec (ws := wsX5_loadShare) B0.pre
  have hown : s.vm.findClass RX5 = some m.cls := findClass_of_methodNamed B0.named
  have hlocks := B0.notSynchronized
  have hF : CallFix p m c cX5_loadShare 2 s ([.ref (α 0)] : List Value).toArray wsX5_loadShare RX5 := ⟨hx, hb, hml, hown, hts⟩
  have hS : va_S (nA) s.heap s.heap [] := va_S.rf
  have hl := lv_entry ([.ref (α 0)]) (n := 2) (Nat.le_of_ble_eq_true rfl)
  rw [lg_entry_eq]
  generalize (lg_sl ([.ref (α 0)]) ++ List.replicate (2 - (lg_sl ([.ref (α 0)])).length) Slot.unset).toArray = ls at hl ⊢
  have hl : lv_has ls 2 [(0, .ref (α 0))] := hl
  refine lv_aload_n hx hb dX5_loadShare_0 rfl (lv_at hl 0 rfl) ?_
  refine dp_get hx hb hts (dp_hin 21 rfl) hown hK hD.1 rfl 0 (by decide) (hts (.fieldLink RX5 10 "DroopBoard" "board" "LDroopBoard$Board;") (List.mem_of_getElem? (i := 1) rfl)) rfl dX5_loadShare_1 ?_
  refine dp_Vi hF hK hN (c_X0_ratingsClosed l D G (aB α 0) R _ hD.2.1) (cwV 0 hts gX5_loadShare_X0_ratingsClosed rfl rfl rfl (by decide +kernel) ⟨Nat.le_of_ble_eq_true rfl, Nat.le_of_ble_eq_true rfl⟩) (dp_recv hK hD.2.1.1 rfl) hS nA_i [] rfl rfl hl.1 (Nat.le_of_ble_eq_true rfl) dX5_loadShare_4 ⟨Nat.le_of_ble_eq_true rfl, Nat.le_of_ble_eq_true rfl⟩ (fun rH1 H1 locs hp hzH1 hkH1 hS => ?_)
  obtain ⟨rfl, rfl⟩ := hp
  refine lv_istore_n (lv' := [(1, .int (rat R 3)), (0, .ref (α 0))]) hx hb dX5_loadShare_7 rfl hl (by decide) rfl (fun ls hl => ?_)
  refine lv_iload_n hx hb dX5_loadShare_8 rfl (lv_at hl 0 rfl) ?_
  refine lv_if_ne (tgt := 14) hx hb dX5_loadShare_9 (by decide) (fun c1 => ?_) (fun c1 => ?_)
  · refine lv_aload_n hx hb dX5_loadShare_14 rfl (lv_at hl 1 rfl) ?_
    refine dp_get hx hb hts (dp_hin 21 rfl) hown hK hD.1 rfl 0 (by decide) (hts (.fieldLink RX5 10 "DroopBoard" "board" "LDroopBoard$Board;") (List.mem_of_getElem? (i := 1) rfl)) rfl dX5_loadShare_15 ?_
    refine dp_Vi hF hK hN (c_X0_demand l D G (aB α 0) R _ hD.2.1) (cwV 0 hts gX5_loadShare_X0_demand rfl rfl rfl (by decide +kernel) ⟨Nat.le_of_ble_eq_true rfl, Nat.le_of_ble_eq_true rfl⟩) (dp_recv hK hD.2.1.1 rfl) hS nA_i [] rfl rfl hl.1 (Nat.le_of_ble_eq_true rfl) dX5_loadShare_18 ⟨Nat.le_of_ble_eq_true rfl, Nat.le_of_ble_eq_true rfl⟩ (fun rH2 H2 locs hp hzH2 hkH2 hS => ?_)
    obtain ⟨rfl, rfl⟩ := hp
    refine lv_i2d hx hb dX5_loadShare_21 ?_
    refine lv_iload_n hx hb dX5_loadShare_22 rfl (lv_at hl 0 rfl) ?_
    refine lv_i2d hx hb dX5_loadShare_23 ?_
    refine lv_ddiv hx hb dX5_loadShare_24 (hfd c1) ?_
    exact W.dret hx hb hr (fun t ht hW => ⟨⟨FP.ddiv (FP.i2d (ld R)) (FP.i2d (rat R 3)), s.heap, rfl, ⟨rfl, by rw [ldsh, if_neg c1]⟩, ht⟩, hS.F ht⟩) hS.2.2 dX5_loadShare_25
  refine lv_dconst0 hx hb dX5_loadShare_12 ?_
  exact W.dret hx hb hr (fun t ht hW => ⟨⟨FP.dconst0, s.heap, rfl, ⟨rfl, by rw [ldsh, if_pos c1]⟩, ht⟩, hS.F ht⟩) hS.2.2 dX5_loadShare_13

set_option maxHeartbeats 600000 in
set_option maxRecDepth 100000 in
theorem c_X5_meanPower (l : Launch) (D : va_G) (G : Nat → ClassId) (α : Nat → Nat) (w : Nat → Nat) (R RT RS : Nat → Int32) (kp : Int32) (sv : Nat → Nat → Int32) (n : Nat) (F : Nat → Int32) (len : Nat)  (H : Heap) (hα : inj 115 α) (hw : pm w) (hD : DP D G α w R RT RS kp sv n F len H) (hbz : bz R) (hm : mono R) (hn6 : n ≤ 6) (hl6 : len ≤ 60) (hfd : ¬ R 4 = 0 → vf_n32 (FP.fdiv (FP.i2f (R 7)) (FP.i2f (R 4)))) : Met l yX5_meanPower wsX5_meanPower ({ frames := 0, cells := 0, slots := 0, locals := 0 } : Room) (va_Pc [.ref (α 0)] (CX D G H)) (QF nA (fun r h => H = h ∧ mnpw R = r)) 0 0 (nA) := by
  refine Met.ofW (cc := cX5_meanPower) (maxL := 1) (ret := (some .float)) (by decide) rfl ?_
  intro p e s m args below meth c s₁ B0 hml hv
  obtain ⟨rfl, rfl, hK, hN⟩ := hv
  have hx := B0.exec
  have hb := B0.bytes
  have hr := B0.returns
  have hts := atoms_spec (ws := wsX5_meanPower) B0.pre
  have hown : s.vm.findClass RX5 = some m.cls := findClass_of_methodNamed B0.named
  have hlocks := B0.notSynchronized
  have hF : CallFix p m c cX5_meanPower 1 s ([.ref (α 0)] : List Value).toArray wsX5_meanPower RX5 := ⟨hx, hb, hml, hown, hts⟩
  have hS : va_S (nA) s.heap s.heap [] := va_S.rf
  have hl := lv_entry ([.ref (α 0)]) (n := 1) (Nat.le_of_ble_eq_true rfl)
  rw [lg_entry_eq]
  generalize (lg_sl ([.ref (α 0)]) ++ List.replicate (1 - (lg_sl ([.ref (α 0)])).length) Slot.unset).toArray = ls at hl ⊢
  have hl : lv_has ls 1 [(0, .ref (α 0))] := hl
  refine lv_aload_n hx hb dX5_meanPower_0 rfl (lv_at hl 0 rfl) ?_
  refine dp_get hx hb hts (dp_hin 4 rfl) hown hK hD.1 rfl 0 (by decide) (hts (.fieldLink RX5 10 "DroopBoard" "board" "LDroopBoard$Board;") (List.mem_of_getElem? (i := 1) rfl)) rfl dX5_meanPower_1 ?_
  refine dp_get hx hb hts (dp_hin 10 rfl) hown hK hD.2.1.1 rfl 3 (by decide) (hts (.fieldLink RX5 186 "DroopBoard$Board" "ticks" "I") (List.mem_of_getElem? (i := 2) rfl)) rfl dX5_meanPower_4 ?_
  refine lv_if_ne (tgt := 12) hx hb dX5_meanPower_7 (by decide) (fun c1 => ?_) (fun c1 => ?_)
  · refine lv_aload_n hx hb dX5_meanPower_12 rfl (lv_at hl 0 rfl) ?_
    refine dp_get hx hb hts (dp_hin 4 rfl) hown hK hD.1 rfl 0 (by decide) (hts (.fieldLink RX5 10 "DroopBoard" "board" "LDroopBoard$Board;") (List.mem_of_getElem? (i := 1) rfl)) rfl dX5_meanPower_13 ?_
    refine dp_get hx hb hts (dp_hin 10 rfl) hown hK hD.2.1.1 rfl 4 (by decide) (hts (.fieldLink RX5 228 "DroopBoard$Board" "energy" "I") (List.mem_of_getElem? (i := 3) rfl)) rfl dX5_meanPower_16 ?_
    refine lv_i2f hx hb dX5_meanPower_19 ?_
    refine lv_aload_n hx hb dX5_meanPower_20 rfl (lv_at hl 0 rfl) ?_
    refine dp_get hx hb hts (dp_hin 4 rfl) hown hK hD.1 rfl 0 (by decide) (hts (.fieldLink RX5 10 "DroopBoard" "board" "LDroopBoard$Board;") (List.mem_of_getElem? (i := 1) rfl)) rfl dX5_meanPower_21 ?_
    refine dp_get hx hb hts (dp_hin 10 rfl) hown hK hD.2.1.1 rfl 3 (by decide) (hts (.fieldLink RX5 186 "DroopBoard$Board" "ticks" "I") (List.mem_of_getElem? (i := 2) rfl)) rfl dX5_meanPower_24 ?_
    refine lv_i2f hx hb dX5_meanPower_27 ?_
    refine lv_fdiv hx hb dX5_meanPower_28 (hfd c1) ?_
    exact W.fret hx hb hr (fun t ht hW => ⟨⟨FP.fdiv (FP.i2f (R 7)) (FP.i2f (R 4)), s.heap, rfl, ⟨rfl, by rw [mnpw, if_neg c1]⟩, ht⟩, hS.F ht⟩) hS.2.2 dX5_meanPower_29
  refine lv_fconst0 hx hb dX5_meanPower_10 ?_
  exact W.fret hx hb hr (fun t ht hW => ⟨⟨FP.fconst0, s.heap, rfl, ⟨rfl, by rw [mnpw, if_pos c1]⟩, ht⟩, hS.F ht⟩) hS.2.2 dX5_meanPower_11
