set_option maxHeartbeats 600000 in
set_option maxRecDepth 100000 in
theorem c_X0_alive (l : Launch) (D : va_G) (G : Nat → ClassId) (b : Nat → Nat) (R : Nat → Int32) (H : Heap) (hB : BD D G b R H) : Met l yX0_alive wsX0_alive ({ frames := 0, cells := 0, slots := 0, locals := 0 } : Room) (va_Pc [.ref (b 0)] (CX D G H)) (QI nA (fun r h => H = h ∧ alv R = r)) 0 0 (nA) := by
  refine Met.ofW (cc := cX0_alive) (maxL := 2) (ret := (some .boolean)) (by decide) rfl ?_
  intro p e s m args below meth c s₁ B0 hml hv
  obtain ⟨rfl, rfl, hK, hN⟩ := hv
  have hx := B0.exec
  have hb := B0.bytes
  have hr := B0.returns
  have hts := atoms_spec (ws := wsX0_alive) B0.pre
  have hown : s.vm.findClass RX0 = some m.cls := findClass_of_methodNamed B0.named
  have hlocks := B0.notSynchronized
  have hF : CallFix p m c cX0_alive 2 s ([.ref (b 0)] : List Value).toArray wsX0_alive RX0 := ⟨hx, hb, hml, hown, hts⟩
  have hS : va_S (nA) s.heap s.heap [] := va_S.rf
  have hl := lv_entry ([.ref (b 0)]) (n := 2) (Nat.le_of_ble_eq_true rfl)
  rw [lg_entry_eq]
  generalize (lg_sl ([.ref (b 0)]) ++ List.replicate (2 - (lg_sl ([.ref (b 0)])).length) Slot.unset).toArray = ls at hl ⊢
  have hl : lv_has ls 2 [(0, .ref (b 0))] := hl
  refine lv_iconst (v := 0) hx hb dX0_alive_0 (by decide) ?_
  refine lv_istore_n (lv' := [(1, .int 0), (0, .ref (b 0))]) hx hb dX0_alive_1 rfl hl (by decide) rfl (fun ls hl => ?_)
  have loop2 : ∀ (n : Nat) (i : Nat) (_ : i + n = 3) (_ : ∀ j, j < i → R (12 + 10 * j) = 0) (locs : List Loc) (_ : va_S (nA) s.heap s.heap locs) (ls : Array Slot) (_ : lv_has ls 2 [(0, .ref (b 0)), (1, .int (nI i))]), W p l e (headSpec wsX0_alive ({ frames := 0, cells := 0, slots := 0, locals := 0 } : Room)).room s m ([.ref (b 0)] : List Value).toArray below meth c s.heap locs 0 0 (MQ below (QI nA (fun r h => s.heap = h ∧ alv R = r)) ([.ref (b 0)] : List Value).toArray s 0 0 (nA)) (F0 m 2 ls []) := by
    intro n
    induction n with
    | zero =>
      intro i hin hz locs hS ls hl
      have hi9 : i = 3 := by omega
      refine lv_iload_n hx hb dX0_alive_2 rfl (lv_at hl 1 rfl) ?_
      refine lv_aload_n hx hb dX0_alive_3 rfl (lv_at hl 0 rfl) ?_
      refine dp_get hx hb hts (dp_hin 3 rfl) hown hK hB.1 rfl 0 (by decide) (hts (.fieldLink RX0 11 "DroopBoard$Board" "diesels" "[LDroopBoard$Diesel;") (List.mem_of_getElem? (i := 1) rfl)) rfl dX0_alive_4 ?_
      refine dp_alen hx hb hK hB.2.1 1 rfl dX0_alive_7 ?_
      refine lv_icmp_ge (tgt := 31) hx hb dX0_alive_8 (by decide) (fun c1 => ?_) (fun c1 => absurd (nI_le (a := 3) (b := i) (by omega) (by omega)) c1)
      refine lv_iconst (v := 0) hx hb dX0_alive_31 (by decide) ?_
      exact W.zret (ty := .boolean) hx hb hr rfl (fun t ht hW => ⟨⟨0, s.heap, rfl, ⟨rfl, by simp [alv, hz 0 (by omega), hz 1 (by omega), hz 2 (by omega)]⟩, ht⟩, hS.F ht⟩) hS.2.2 dX0_alive_32
    | succ n ih2 =>
      intro i hin hz locs hS ls hl
      refine lv_iload_n hx hb dX0_alive_2 rfl (lv_at hl 1 rfl) ?_
      refine lv_aload_n hx hb dX0_alive_3 rfl (lv_at hl 0 rfl) ?_
      refine dp_get hx hb hts (dp_hin 3 rfl) hown hK hB.1 rfl 0 (by decide) (hts (.fieldLink RX0 11 "DroopBoard$Board" "diesels" "[LDroopBoard$Diesel;") (List.mem_of_getElem? (i := 1) rfl)) rfl dX0_alive_4 ?_
      refine dp_alen hx hb hK hB.2.1 1 rfl dX0_alive_7 ?_
      refine lv_icmp_ge (tgt := 31) hx hb dX0_alive_8 (by decide) (fun c2 => absurd c2 (nI_ge (a := i) (b := 3) (by omega) (by omega))) (fun c2 => ?_)
      refine lv_aload_n hx hb dX0_alive_11 rfl (lv_at hl 0 rfl) ?_
      refine dp_get hx hb hts (dp_hin 3 rfl) hown hK hB.1 rfl 0 (by decide) (hts (.fieldLink RX0 11 "DroopBoard$Board" "diesels" "[LDroopBoard$Diesel;") (List.mem_of_getElem? (i := 1) rfl)) rfl dX0_alive_12 ?_
      refine lv_iload_n hx hb dX0_alive_15 rfl (lv_at hl 1 rfl) ?_
      refine dp_aald hx hb hK hB.2.1 1 rfl i rfl (by omega) (by decide) rfl dX0_alive_16 ?_
      refine dp_get hx hb hts (dp_hin 8 rfl) hown hK (hB.2.2.2.2.1 i (by omega)) rfl 4 (by decide) (hts (.fieldLink RX0 45 "DroopBoard$Diesel" "closed" "Z") (List.mem_of_getElem? (i := 2) rfl)) rfl dX0_alive_17 ?_
      refine lv_if_eq (tgt := 25) hx hb dX0_alive_20 (by decide) (fun c3 => ?_) (fun c3 => ?_)
      · refine lv_iinc (v := nI (i + 1)) (lv' := [(1, .int (nI (i + 1))), (0, .ref (b 0))]) hx hb dX0_alive_25 hl (k := 1) rfl (nI_1 i) (by decide) rfl (fun ls hl => ?_)
        refine lv_goto (tgt := 2) hx hb dX0_alive_28 (by decide) ?_
        exact ih2 (i + 1) (by omega) (fun j hj => by rcases Nat.lt_or_ge j i with q | q; exact hz j q; rw [show j = i by omega]; exact c3) _ hS _ (lv_sub hl [1, 0] rfl)
      refine lv_iconst (v := 1) hx hb dX0_alive_23 (by decide) ?_
      exact W.zret (ty := .boolean) hx hb hr rfl (fun t ht hW => ⟨⟨1, s.heap, rfl, ⟨rfl, (alv_1 (by omega) c3).symm⟩, ht⟩, hS.F ht⟩) hS.2.2 dX0_alive_24
  exact loop2 3 0 rfl (fun j hj => absurd hj (Nat.not_lt_zero j)) _ hS _ (lv_sub hl [1, 0] rfl)

set_option maxHeartbeats 600000 in
set_option maxRecDepth 100000 in
theorem c_X0_lowestClosed (l : Launch) (D : va_G) (G : Nat → ClassId) (b : Nat → Nat) (R : Nat → Int32) (H : Heap) (hB : BD D G b R H) : Met l yX0_lowestClosed wsX0_lowestClosed ({ frames := 0, cells := 0, slots := 0, locals := 0 } : Room) (va_Pc [.ref (b 0)] (CX D G H)) (QI nA (fun r h => H = h ∧ lw R = r)) 0 0 (nA) := by
  refine Met.ofW (cc := cX0_lowestClosed) (maxL := 2) (ret := (some .int)) (by decide) rfl ?_
  intro p e s m args below meth c s₁ B0 hml hv
  obtain ⟨rfl, rfl, hK, hN⟩ := hv
  have hx := B0.exec
  have hb := B0.bytes
  have hr := B0.returns
  have hts := atoms_spec (ws := wsX0_lowestClosed) B0.pre
  have hown : s.vm.findClass RX0 = some m.cls := findClass_of_methodNamed B0.named
  have hlocks := B0.notSynchronized
  have hF : CallFix p m c cX0_lowestClosed 2 s ([.ref (b 0)] : List Value).toArray wsX0_lowestClosed RX0 := ⟨hx, hb, hml, hown, hts⟩
  have hS : va_S (nA) s.heap s.heap [] := va_S.rf
  have hl := lv_entry ([.ref (b 0)]) (n := 2) (Nat.le_of_ble_eq_true rfl)
  rw [lg_entry_eq]
  generalize (lg_sl ([.ref (b 0)]) ++ List.replicate (2 - (lg_sl ([.ref (b 0)])).length) Slot.unset).toArray = ls at hl ⊢
  have hl : lv_has ls 2 [(0, .ref (b 0))] := hl
  refine lv_iconst (v := 0) hx hb dX0_lowestClosed_0 (by decide) ?_
  refine lv_istore_n (lv' := [(1, .int 0), (0, .ref (b 0))]) hx hb dX0_lowestClosed_1 rfl hl (by decide) rfl (fun ls hl => ?_)
  have loop2 : ∀ (n : Nat) (i : Nat) (_ : i + n = 3) (_ : ∀ j, j < i → R (12 + 10 * j) = 0) (locs : List Loc) (_ : va_S (nA) s.heap s.heap locs) (ls : Array Slot) (_ : lv_has ls 2 [(0, .ref (b 0)), (1, .int (nI i))]), W p l e (headSpec wsX0_lowestClosed ({ frames := 0, cells := 0, slots := 0, locals := 0 } : Room)).room s m ([.ref (b 0)] : List Value).toArray below meth c s.heap locs 0 0 (MQ below (QI nA (fun r h => s.heap = h ∧ lw R = r)) ([.ref (b 0)] : List Value).toArray s 0 0 (nA)) (F0 m 2 ls []) := by
    intro n
    induction n with
    | zero =>
      intro i hin hz locs hS ls hl
      have hi9 : i = 3 := by omega
      refine lv_iload_n hx hb dX0_lowestClosed_2 rfl (lv_at hl 1 rfl) ?_
      refine lv_aload_n hx hb dX0_lowestClosed_3 rfl (lv_at hl 0 rfl) ?_
      refine dp_get hx hb hts (dp_hin 3 rfl) hown hK hB.1 rfl 0 (by decide) (hts (.fieldLink RX0 11 "DroopBoard$Board" "diesels" "[LDroopBoard$Diesel;") (List.mem_of_getElem? (i := 1) rfl)) rfl dX0_lowestClosed_4 ?_
      refine dp_alen hx hb hK hB.2.1 1 rfl dX0_lowestClosed_7 ?_
      refine lv_icmp_ge (tgt := 31) hx hb dX0_lowestClosed_8 (by decide) (fun c1 => ?_) (fun c1 => absurd (nI_le (a := 3) (b := i) (by omega) (by omega)) c1)
      refine lv_iconst (v := (-1)) hx hb dX0_lowestClosed_31 (by decide) ?_
      exact W.iret hx hb hr (fun t ht hW => ⟨⟨-1, s.heap, rfl, ⟨rfl, by simp [lw, hz 0 (by omega), hz 1 (by omega), hz 2 (by omega)]⟩, ht⟩, hS.F ht⟩) hS.2.2 dX0_lowestClosed_32
    | succ n ih2 =>
      intro i hin hz locs hS ls hl
      refine lv_iload_n hx hb dX0_lowestClosed_2 rfl (lv_at hl 1 rfl) ?_
      refine lv_aload_n hx hb dX0_lowestClosed_3 rfl (lv_at hl 0 rfl) ?_
      refine dp_get hx hb hts (dp_hin 3 rfl) hown hK hB.1 rfl 0 (by decide) (hts (.fieldLink RX0 11 "DroopBoard$Board" "diesels" "[LDroopBoard$Diesel;") (List.mem_of_getElem? (i := 1) rfl)) rfl dX0_lowestClosed_4 ?_
      refine dp_alen hx hb hK hB.2.1 1 rfl dX0_lowestClosed_7 ?_
      refine lv_icmp_ge (tgt := 31) hx hb dX0_lowestClosed_8 (by decide) (fun c2 => absurd c2 (nI_ge (a := i) (b := 3) (by omega) (by omega))) (fun c2 => ?_)
      refine lv_aload_n hx hb dX0_lowestClosed_11 rfl (lv_at hl 0 rfl) ?_
      refine dp_get hx hb hts (dp_hin 3 rfl) hown hK hB.1 rfl 0 (by decide) (hts (.fieldLink RX0 11 "DroopBoard$Board" "diesels" "[LDroopBoard$Diesel;") (List.mem_of_getElem? (i := 1) rfl)) rfl dX0_lowestClosed_12 ?_
      refine lv_iload_n hx hb dX0_lowestClosed_15 rfl (lv_at hl 1 rfl) ?_
      refine dp_aald hx hb hK hB.2.1 1 rfl i rfl (by omega) (by decide) rfl dX0_lowestClosed_16 ?_
      refine dp_get hx hb hts (dp_hin 8 rfl) hown hK (hB.2.2.2.2.1 i (by omega)) rfl 4 (by decide) (hts (.fieldLink RX0 45 "DroopBoard$Diesel" "closed" "Z") (List.mem_of_getElem? (i := 2) rfl)) rfl dX0_lowestClosed_17 ?_
      refine lv_if_eq (tgt := 25) hx hb dX0_lowestClosed_20 (by decide) (fun c3 => ?_) (fun c3 => ?_)
      · refine lv_iinc (v := nI (i + 1)) (lv' := [(1, .int (nI (i + 1))), (0, .ref (b 0))]) hx hb dX0_lowestClosed_25 hl (k := 1) rfl (nI_1 i) (by decide) rfl (fun ls hl => ?_)
        refine lv_goto (tgt := 2) hx hb dX0_lowestClosed_28 (by decide) ?_
        exact ih2 (i + 1) (by omega) (fun j hj => by rcases Nat.lt_or_ge j i with q | q; exact hz j q; rw [show j = i by omega]; exact c3) _ hS _ (lv_sub hl [1, 0] rfl)
      refine lv_iload_n hx hb dX0_lowestClosed_23 rfl (lv_at hl 1 rfl) ?_
      exact W.iret hx hb hr (fun t ht hW => ⟨⟨nI i, s.heap, rfl, ⟨rfl, (lw_i (by omega) hz c3).symm⟩, ht⟩, hS.F ht⟩) hS.2.2 dX0_lowestClosed_24
  exact loop2 3 0 rfl (fun j hj => absurd hj (Nat.not_lt_zero j)) _ hS _ (lv_sub hl [1, 0] rfl)

set_option maxHeartbeats 600000 in
set_option maxRecDepth 100000 in
theorem c_X0_demand (l : Launch) (D : va_G) (G : Nat → ClassId) (b : Nat → Nat) (R : Nat → Int32) (H : Heap) (hB : BD D G b R H) : Met l yX0_demand wsX0_demand ({ frames := 1, cells := 0, slots := 0, locals := 21 } : Room) (va_Pc [.ref (b 0)] (CX D G H)) (QI nA (fun r h => H = h ∧ ld R = r)) 0 0 (nA) := by
  refine Met.ofW (cc := cX0_demand) (maxL := 3) (ret := (some .int)) (by decide) rfl ?_
  intro p e s m args below meth c s₁ B0 hml hv
  obtain ⟨rfl, rfl, hK, hN⟩ := hv
  have hx := B0.exec
  have hb := B0.bytes
  have hr := B0.returns
  have hts := atoms_spec (ws := wsX0_demand) B0.pre
  have hown : s.vm.findClass RX0 = some m.cls := findClass_of_methodNamed B0.named
  have hlocks := B0.notSynchronized
  have hF : CallFix p m c cX0_demand 3 s ([.ref (b 0)] : List Value).toArray wsX0_demand RX0 := ⟨hx, hb, hml, hown, hts⟩
  have hS : va_S (nA) s.heap s.heap [] := va_S.rf
  have hl := lv_entry ([.ref (b 0)]) (n := 3) (Nat.le_of_ble_eq_true rfl)
  rw [lg_entry_eq]
  generalize (lg_sl ([.ref (b 0)]) ++ List.replicate (3 - (lg_sl ([.ref (b 0)])).length) Slot.unset).toArray = ls at hl ⊢
  have hl : lv_has ls 3 [(0, .ref (b 0))] := hl
  refine lv_aload_n hx hb dX0_demand_0 rfl (lv_at hl 0 rfl) ?_
  refine dp_Vi hF hK hN (c_X0_alive l D G b R _ hB) (cwV 0 hts gX0_demand_X0_alive rfl rfl rfl (by decide +kernel) ⟨Nat.le_of_ble_eq_true rfl, Nat.le_of_ble_eq_true rfl⟩) (dp_recv hK hB.1 rfl) hS nA_i [] rfl rfl hl.1 (Nat.le_of_ble_eq_true rfl) dX0_demand_1 ⟨Nat.le_of_ble_eq_true rfl, Nat.le_of_ble_eq_true rfl⟩ (fun rH1 H1 locs hp hzH1 hkH1 hS => ?_)
  obtain ⟨rfl, rfl⟩ := hp
  refine lv_if_ne (tgt := 9) hx hb dX0_demand_4 (by decide) (fun c1 => ?_) (fun c1 => ?_)
  · refine lv_iconst (v := 0) hx hb dX0_demand_9 (by decide) ?_
    refine lv_istore_n (lv' := [(1, .int 0), (0, .ref (b 0))]) hx hb dX0_demand_10 rfl hl (by decide) rfl (fun ls hl => ?_)
    refine lv_iconst (v := 0) hx hb dX0_demand_11 (by decide) ?_
    refine lv_istore_n (lv' := [(2, .int 0), (1, .int 0), (0, .ref (b 0))]) hx hb dX0_demand_12 rfl hl (by decide) rfl (fun ls hl => ?_)
    have loop13 : ∀ (n : Nat) (i : Nat) (acc : Int32) (_ : i + n = 4) (_ : acc = lsum R i) (locs : List Loc) (_ : va_S (nA) s.heap s.heap locs) (ls : Array Slot) (_ : lv_has ls 3 [(0, .ref (b 0)), (1, .int acc), (2, .int (nI i))]), W p l e (headSpec wsX0_demand ({ frames := 1, cells := 0, slots := 0, locals := 21 } : Room)).room s m ([.ref (b 0)] : List Value).toArray below meth c s.heap locs 0 0 (MQ below (QI nA (fun r h => s.heap = h ∧ ld R = r)) ([.ref (b 0)] : List Value).toArray s 0 0 (nA)) (F0 m 13 ls []) := by
      intro n
      induction n with
      | zero =>
        intro i acc hin hacc locs hS ls hl
        have hi9 : i = 4 := by omega
        rw [hi9] at hacc
        refine lv_iload_n hx hb dX0_demand_13 rfl (lv_at hl 2 rfl) ?_
        refine lv_aload_n hx hb dX0_demand_14 rfl (lv_at hl 0 rfl) ?_
        refine dp_get hx hb hts (dp_hin 11 rfl) hown hK hB.1 rfl 1 (by decide) (hts (.fieldLink RX0 19 "DroopBoard$Board" "feeders" "[LDroopBoard$Feeder;") (List.mem_of_getElem? (i := 1) rfl)) rfl dX0_demand_15 ?_
        refine dp_alen hx hb hK hB.2.2.1 2 rfl dX0_demand_18 ?_
        refine lv_icmp_ge (tgt := 52) hx hb dX0_demand_19 (by decide) (fun c2 => ?_) (fun c2 => absurd (nI_le (a := 4) (b := i) (by omega) (by omega)) c2)
        refine lv_iload_n hx hb dX0_demand_52 rfl (lv_at hl 1 rfl) ?_
        exact W.iret hx hb hr (fun t ht hW => ⟨⟨acc, s.heap, rfl, ⟨rfl, by simp [ld, c1, hacc]⟩, ht⟩, hS.F ht⟩) hS.2.2 dX0_demand_53
      | succ n ih13 =>
        intro i acc hin hacc locs hS ls hl
        refine lv_iload_n hx hb dX0_demand_13 rfl (lv_at hl 2 rfl) ?_
        refine lv_aload_n hx hb dX0_demand_14 rfl (lv_at hl 0 rfl) ?_
        refine dp_get hx hb hts (dp_hin 11 rfl) hown hK hB.1 rfl 1 (by decide) (hts (.fieldLink RX0 19 "DroopBoard$Board" "feeders" "[LDroopBoard$Feeder;") (List.mem_of_getElem? (i := 1) rfl)) rfl dX0_demand_15 ?_
        refine dp_alen hx hb hK hB.2.2.1 2 rfl dX0_demand_18 ?_
        refine lv_icmp_ge (tgt := 52) hx hb dX0_demand_19 (by decide) (fun c3 => absurd c3 (nI_ge (a := i) (b := 4) (by omega) (by omega))) (fun c3 => ?_)
        refine lv_aload_n hx hb dX0_demand_22 rfl (lv_at hl 0 rfl) ?_
        refine dp_get hx hb hts (dp_hin 11 rfl) hown hK hB.1 rfl 1 (by decide) (hts (.fieldLink RX0 19 "DroopBoard$Board" "feeders" "[LDroopBoard$Feeder;") (List.mem_of_getElem? (i := 1) rfl)) rfl dX0_demand_23 ?_
        refine lv_iload_n hx hb dX0_demand_26 rfl (lv_at hl 2 rfl) ?_
        refine dp_aald hx hb hK hB.2.2.1 2 rfl i rfl (by omega) (by decide) rfl dX0_demand_27 ?_
        refine dp_get hx hb hts (dp_hin 16 rfl) hown hK (hB.2.2.2.2.2 i (by omega)) rfl 1 (by decide) (hts (.fieldLink RX0 53 "DroopBoard$Feeder" "on" "Z") (List.mem_of_getElem? (i := 2) rfl)) rfl dX0_demand_28 ?_
        refine lv_if_eq (tgt := 46) hx hb dX0_demand_31 (by decide) (fun c4 => ?_) (fun c4 => ?_)
        · refine lv_iinc (v := nI (i + 1)) (lv' := [(2, .int (nI (i + 1))), (0, .ref (b 0)), (1, .int acc)]) hx hb dX0_demand_46 hl (k := 2) rfl (nI_1 i) (by decide) rfl (fun ls hl => ?_)
          refine lv_goto (tgt := 13) hx hb dX0_demand_49 (by decide) ?_
          exact ih13 (i + 1) acc (by omega) (by simp [lsum, hacc, c1, c4]) _ hS _ (lv_sub hl [1, 2, 0] rfl)
        refine lv_iload_n hx hb dX0_demand_34 rfl (lv_at hl 1 rfl) ?_
        refine lv_aload_n hx hb dX0_demand_35 rfl (lv_at hl 0 rfl) ?_
        refine dp_get hx hb hts (dp_hin 11 rfl) hown hK hB.1 rfl 1 (by decide) (hts (.fieldLink RX0 19 "DroopBoard$Board" "feeders" "[LDroopBoard$Feeder;") (List.mem_of_getElem? (i := 1) rfl)) rfl dX0_demand_36 ?_
        refine lv_iload_n hx hb dX0_demand_39 rfl (lv_at hl 2 rfl) ?_
        refine dp_aald hx hb hK hB.2.2.1 2 rfl i rfl (by omega) (by decide) rfl dX0_demand_40 ?_
        refine dp_get hx hb hts (dp_hin 16 rfl) hown hK (hB.2.2.2.2.2 i (by omega)) rfl 0 (by decide) (hts (.fieldLink RX0 56 "DroopBoard$Feeder" "load" "I") (List.mem_of_getElem? (i := 3) rfl)) rfl dX0_demand_41 ?_
        refine lv_iadd hx hb dX0_demand_44 ?_
        refine lv_istore_n (lv' := [(1, .int (acc + (R (38 + 3 * i)))), (0, .ref (b 0)), (2, .int (nI i))]) hx hb dX0_demand_45 rfl hl (by decide) rfl (fun ls hl => ?_)
        refine lv_iinc (v := nI (i + 1)) (lv' := [(2, .int (nI (i + 1))), (1, .int (acc + (R (38 + 3 * i)))), (0, .ref (b 0))]) hx hb dX0_demand_46 hl (k := 2) rfl (nI_1 i) (by decide) rfl (fun ls hl => ?_)
        refine lv_goto (tgt := 13) hx hb dX0_demand_49 (by decide) ?_
        exact ih13 (i + 1) (acc + (R (38 + 3 * i))) (by omega) (by simp [lsum, hacc, c1, c4]) _ hS _ (lv_sub hl [2, 1, 0] rfl)
    exact loop13 4 0 0 rfl rfl _ hS _ (lv_sub hl [2, 1, 0] rfl)
  refine lv_iconst (v := 0) hx hb dX0_demand_7 (by decide) ?_
  exact W.iret hx hb hr (fun t ht hW => ⟨⟨0, s.heap, rfl, ⟨rfl, by simp [ld, c1]⟩, ht⟩, hS.F ht⟩) hS.2.2 dX0_demand_8

set_option maxHeartbeats 600000 in
set_option maxRecDepth 100000 in
theorem c_X0_total (l : Launch) (D : va_G) (G : Nat → ClassId) (b : Nat → Nat) (R : Nat → Int32) (f : Int32) (H : Heap) (hB : BD D G b R H) : Met l yX0_total wsX0_total ({ frames := 1, cells := 0, slots := 0, locals := 21 } : Room) (va_Pc [.ref (b 0), .int f] (CX D G H)) (QI nA (fun r h => H = h ∧ tot R f = r)) 0 0 (nA) := by
  refine Met.ofW (cc := cX0_total) (maxL := 4) (ret := (some .int)) (by decide) rfl ?_
  intro p e s m args below meth c s₁ B0 hml hv
  obtain ⟨rfl, rfl, hK, hN⟩ := hv
  have hx := B0.exec
  have hb := B0.bytes
  have hr := B0.returns
  have hts := atoms_spec (ws := wsX0_total) B0.pre
  have hown : s.vm.findClass RX0 = some m.cls := findClass_of_methodNamed B0.named
  have hlocks := B0.notSynchronized
  have hF : CallFix p m c cX0_total 4 s ([.ref (b 0), .int f] : List Value).toArray wsX0_total RX0 := ⟨hx, hb, hml, hown, hts⟩
  have hS : va_S (nA) s.heap s.heap [] := va_S.rf
  have hl := lv_entry ([.ref (b 0), .int f]) (n := 4) (Nat.le_of_ble_eq_true rfl)
  rw [lg_entry_eq]
  generalize (lg_sl ([.ref (b 0), .int f]) ++ List.replicate (4 - (lg_sl ([.ref (b 0), .int f])).length) Slot.unset).toArray = ls at hl ⊢
  have hl : lv_has ls 4 [(0, .ref (b 0)), (1, .int f)] := hl
  refine lv_iconst (v := 0) hx hb dX0_total_0 (by decide) ?_
  refine lv_istore_n (lv' := [(2, .int 0), (0, .ref (b 0)), (1, .int f)]) hx hb dX0_total_1 rfl hl (by decide) rfl (fun ls hl => ?_)
  refine lv_iconst (v := 0) hx hb dX0_total_2 (by decide) ?_
  refine lv_istore_n (lv' := [(3, .int 0), (2, .int 0), (0, .ref (b 0)), (1, .int f)]) hx hb dX0_total_3 rfl hl (by decide) rfl (fun ls hl => ?_)
  have loop4 : ∀ (n : Nat) (i : Nat) (acc : Int32) (_ : i + n = 3) (_ : acc = tsum R f i) (locs : List Loc) (_ : va_S (nA) s.heap s.heap locs) (ls : Array Slot) (_ : lv_has ls 4 [(0, .ref (b 0)), (1, .int f), (2, .int acc), (3, .int (nI i))]), W p l e (headSpec wsX0_total ({ frames := 1, cells := 0, slots := 0, locals := 21 } : Room)).room s m ([.ref (b 0), .int f] : List Value).toArray below meth c s.heap locs 0 0 (MQ below (QI nA (fun r h => s.heap = h ∧ tot R f = r)) ([.ref (b 0), .int f] : List Value).toArray s 0 0 (nA)) (F0 m 4 ls []) := by
    intro n
    induction n with
    | zero =>
      intro i acc hin hacc locs hS ls hl
      have hi9 : i = 3 := by omega
      rw [hi9] at hacc
      refine lv_iload_n hx hb dX0_total_4 rfl (lv_at hl 3 rfl) ?_
      refine lv_aload_n hx hb dX0_total_5 rfl (lv_at hl 0 rfl) ?_
      refine dp_get hx hb hts (dp_hin 11 rfl) hown hK hB.1 rfl 0 (by decide) (hts (.fieldLink RX0 11 "DroopBoard$Board" "diesels" "[LDroopBoard$Diesel;") (List.mem_of_getElem? (i := 1) rfl)) rfl dX0_total_6 ?_
      refine dp_alen hx hb hK hB.2.1 1 rfl dX0_total_9 ?_
      refine lv_icmp_ge (tgt := 32) hx hb dX0_total_10 (by decide) (fun c1 => ?_) (fun c1 => absurd (nI_le (a := 3) (b := i) (by omega) (by omega)) c1)
      refine lv_iload_n hx hb dX0_total_32 rfl (lv_at hl 2 rfl) ?_
      exact W.iret hx hb hr (fun t ht hW => ⟨⟨acc, s.heap, rfl, ⟨rfl, by simp [tot, hacc]⟩, ht⟩, hS.F ht⟩) hS.2.2 dX0_total_33
    | succ n ih4 =>
      intro i acc hin hacc locs hS ls hl
      refine lv_iload_n hx hb dX0_total_4 rfl (lv_at hl 3 rfl) ?_
      refine lv_aload_n hx hb dX0_total_5 rfl (lv_at hl 0 rfl) ?_
      refine dp_get hx hb hts (dp_hin 11 rfl) hown hK hB.1 rfl 0 (by decide) (hts (.fieldLink RX0 11 "DroopBoard$Board" "diesels" "[LDroopBoard$Diesel;") (List.mem_of_getElem? (i := 1) rfl)) rfl dX0_total_6 ?_
      refine dp_alen hx hb hK hB.2.1 1 rfl dX0_total_9 ?_
      refine lv_icmp_ge (tgt := 32) hx hb dX0_total_10 (by decide) (fun c2 => absurd c2 (nI_ge (a := i) (b := 3) (by omega) (by omega))) (fun c2 => ?_)
      refine lv_iload_n hx hb dX0_total_13 rfl (lv_at hl 2 rfl) ?_
      refine lv_aload_n hx hb dX0_total_14 rfl (lv_at hl 0 rfl) ?_
      refine dp_get hx hb hts (dp_hin 11 rfl) hown hK hB.1 rfl 0 (by decide) (hts (.fieldLink RX0 11 "DroopBoard$Board" "diesels" "[LDroopBoard$Diesel;") (List.mem_of_getElem? (i := 1) rfl)) rfl dX0_total_15 ?_
      refine lv_iload_n hx hb dX0_total_18 rfl (lv_at hl 3 rfl) ?_
      refine dp_aald hx hb hK hB.2.1 1 rfl i rfl (by omega) (by decide) rfl dX0_total_19 ?_
      refine lv_iload_n hx hb dX0_total_20 rfl (lv_at hl 1 rfl) ?_
      refine dp_Vi hF hK hN (c_X1_gives l D G (b (4 + i)) i R f _ (hB.2.2.2.2.1 i (by omega))) (cwV 1 hts gX0_total_X1_gives rfl rfl rfl (by decide +kernel) ⟨Nat.le_of_ble_eq_true rfl, Nat.le_of_ble_eq_true rfl⟩) (dp_recv hK (hB.2.2.2.2.1 i (by omega)) rfl) hS nA_i [.int acc] rfl rfl hl.1 (Nat.le_of_ble_eq_true rfl) dX0_total_21 ⟨Nat.le_of_ble_eq_true rfl, Nat.le_of_ble_eq_true rfl⟩ (fun rH1 H1 locs hp hzH1 hkH1 hS => ?_)
      obtain ⟨rfl, rfl⟩ := hp
      refine lv_iadd hx hb dX0_total_24 ?_
      refine lv_istore_n (lv' := [(2, .int (acc + (gv R i f))), (0, .ref (b 0)), (1, .int f), (3, .int (nI i))]) hx hb dX0_total_25 rfl hl (by decide) rfl (fun ls hl => ?_)
      refine lv_iinc (v := nI (i + 1)) (lv' := [(3, .int (nI (i + 1))), (2, .int (acc + (gv R i f))), (0, .ref (b 0)), (1, .int f)]) hx hb dX0_total_26 hl (k := 3) rfl (nI_1 i) (by decide) rfl (fun ls hl => ?_)
      refine lv_goto (tgt := 4) hx hb dX0_total_29 (by decide) ?_
      exact ih4 (i + 1) (acc + (gv R i f)) (by omega) (by simp [tsum, hacc]) _ hS _ (lv_sub hl [2, 3, 1, 0] rfl)
  exact loop4 3 0 0 rfl rfl _ hS _ (lv_sub hl [2, 3, 1, 0] rfl)

set_option maxHeartbeats 600000 in
set_option maxRecDepth 100000 in
theorem c_X0_running (l : Launch) (D : va_G) (G : Nat → ClassId) (b : Nat → Nat) (R : Nat → Int32) (H : Heap) (hB : BD D G b R H) : Met l yX0_running wsX0_running ({ frames := 1, cells := 0, slots := 0, locals := 20 } : Room) (va_Pc [.ref (b 0)] (CX D G H)) (QI nA (fun r h => H = h ∧ osum R 11 3 = r)) 0 0 (nA) := by
  refine Met.ofW (cc := cX0_running) (maxL := 3) (ret := (some .int)) (by decide) rfl ?_
  intro p e s m args below meth c s₁ B0 hml hv
  obtain ⟨rfl, rfl, hK, hN⟩ := hv
  have hx := B0.exec
  have hb := B0.bytes
  have hr := B0.returns
  have hts := atoms_spec (ws := wsX0_running) B0.pre
  have hown : s.vm.findClass RX0 = some m.cls := findClass_of_methodNamed B0.named
  have hlocks := B0.notSynchronized
  have hF : CallFix p m c cX0_running 3 s ([.ref (b 0)] : List Value).toArray wsX0_running RX0 := ⟨hx, hb, hml, hown, hts⟩
  have hS : va_S (nA) s.heap s.heap [] := va_S.rf
  have hl := lv_entry ([.ref (b 0)]) (n := 3) (Nat.le_of_ble_eq_true rfl)
  rw [lg_entry_eq]
  generalize (lg_sl ([.ref (b 0)]) ++ List.replicate (3 - (lg_sl ([.ref (b 0)])).length) Slot.unset).toArray = ls at hl ⊢
  have hl : lv_has ls 3 [(0, .ref (b 0))] := hl
  refine lv_iconst (v := 0) hx hb dX0_running_0 (by decide) ?_
  refine lv_istore_n (lv' := [(1, .int 0), (0, .ref (b 0))]) hx hb dX0_running_1 rfl hl (by decide) rfl (fun ls hl => ?_)
  refine lv_iconst (v := 0) hx hb dX0_running_2 (by decide) ?_
  refine lv_istore_n (lv' := [(2, .int 0), (1, .int 0), (0, .ref (b 0))]) hx hb dX0_running_3 rfl hl (by decide) rfl (fun ls hl => ?_)
  have loop4 : ∀ (n : Nat) (i : Nat) (acc : Int32) (_ : i + n = 3) (_ : acc = osum R 11 i) (locs : List Loc) (_ : va_S (nA) s.heap s.heap locs) (ls : Array Slot) (_ : lv_has ls 3 [(0, .ref (b 0)), (1, .int acc), (2, .int (nI i))]), W p l e (headSpec wsX0_running ({ frames := 1, cells := 0, slots := 0, locals := 20 } : Room)).room s m ([.ref (b 0)] : List Value).toArray below meth c s.heap locs 0 0 (MQ below (QI nA (fun r h => s.heap = h ∧ osum R 11 3 = r)) ([.ref (b 0)] : List Value).toArray s 0 0 (nA)) (F0 m 4 ls []) := by
    intro n
    induction n with
    | zero =>
      intro i acc hin hacc locs hS ls hl
      have hi9 : i = 3 := by omega
      rw [hi9] at hacc
      refine lv_iload_n hx hb dX0_running_4 rfl (lv_at hl 2 rfl) ?_
      refine lv_aload_n hx hb dX0_running_5 rfl (lv_at hl 0 rfl) ?_
      refine dp_get hx hb hts (dp_hin 6 rfl) hown hK hB.1 rfl 0 (by decide) (hts (.fieldLink RX0 11 "DroopBoard$Board" "diesels" "[LDroopBoard$Diesel;") (List.mem_of_getElem? (i := 1) rfl)) rfl dX0_running_6 ?_
      refine dp_alen hx hb hK hB.2.1 1 rfl dX0_running_9 ?_
      refine lv_icmp_ge (tgt := 34) hx hb dX0_running_10 (by decide) (fun c1 => ?_) (fun c1 => absurd (nI_le (a := 3) (b := i) (by omega) (by omega)) c1)
      refine lv_iload_n hx hb dX0_running_34 rfl (lv_at hl 1 rfl) ?_
      exact W.iret hx hb hr (fun t ht hW => ⟨⟨acc, s.heap, rfl, ⟨rfl, hacc.symm⟩, ht⟩, hS.F ht⟩) hS.2.2 dX0_running_35
    | succ n ih4 =>
      intro i acc hin hacc locs hS ls hl
      refine lv_iload_n hx hb dX0_running_4 rfl (lv_at hl 2 rfl) ?_
      refine lv_aload_n hx hb dX0_running_5 rfl (lv_at hl 0 rfl) ?_
      refine dp_get hx hb hts (dp_hin 6 rfl) hown hK hB.1 rfl 0 (by decide) (hts (.fieldLink RX0 11 "DroopBoard$Board" "diesels" "[LDroopBoard$Diesel;") (List.mem_of_getElem? (i := 1) rfl)) rfl dX0_running_6 ?_
      refine dp_alen hx hb hK hB.2.1 1 rfl dX0_running_9 ?_
      refine lv_icmp_ge (tgt := 34) hx hb dX0_running_10 (by decide) (fun c2 => absurd c2 (nI_ge (a := i) (b := 3) (by omega) (by omega))) (fun c2 => ?_)
      refine lv_iload_n hx hb dX0_running_13 rfl (lv_at hl 1 rfl) ?_
      refine lv_aload_n hx hb dX0_running_14 rfl (lv_at hl 0 rfl) ?_
      refine dp_get hx hb hts (dp_hin 6 rfl) hown hK hB.1 rfl 0 (by decide) (hts (.fieldLink RX0 11 "DroopBoard$Board" "diesels" "[LDroopBoard$Diesel;") (List.mem_of_getElem? (i := 1) rfl)) rfl dX0_running_15 ?_
      refine lv_iload_n hx hb dX0_running_18 rfl (lv_at hl 2 rfl) ?_
      refine dp_aald hx hb hK hB.2.1 1 rfl i rfl (by omega) (by decide) rfl dX0_running_19 ?_
      refine dp_get hx hb hts (dp_hin 11 rfl) hown hK (hB.2.2.2.2.1 i (by omega)) rfl 3 (by decide) (hts (.fieldLink RX0 82 "DroopBoard$Diesel" "runs" "Z") (List.mem_of_getElem? (i := 2) rfl)) rfl dX0_running_20 ?_
      refine dp_SNi hF hK hN (c_X5_oneIf l D G (R (11 + 10 * i)) _) ⟨va_cnB 1 hts gX0_running_X5_oneIf_n127 rfl rfl rfl hN.1 (hts (.initialized RX5) (List.mem_of_getElem? (i := 4) rfl)) (by decide +kernel) ⟨Nat.le_of_ble_eq_true rfl, Nat.le_of_ble_eq_true rfl⟩, (hts (.static yX5_oneIf) (List.mem_of_getElem? (i := 3) rfl)), trivial⟩ hS nA_i [.int acc] rfl rfl hl.1 (Nat.le_of_ble_eq_true rfl) dX0_running_23 ⟨Nat.le_of_ble_eq_true rfl, Nat.le_of_ble_eq_true rfl⟩ (fun rH1 H1 locs hp hzH1 hkH1 hS => ?_)
      obtain ⟨rfl, rfl⟩ := hp
      refine lv_iadd hx hb dX0_running_26 ?_
      refine lv_istore_n (lv' := [(1, .int (acc + ((if R (11 + 10 * i) = 0 then 0 else 1)))), (0, .ref (b 0)), (2, .int (nI i))]) hx hb dX0_running_27 rfl hl (by decide) rfl (fun ls hl => ?_)
      refine lv_iinc (v := nI (i + 1)) (lv' := [(2, .int (nI (i + 1))), (1, .int (acc + ((if R (11 + 10 * i) = 0 then 0 else 1)))), (0, .ref (b 0))]) hx hb dX0_running_28 hl (k := 2) rfl (nI_1 i) (by decide) rfl (fun ls hl => ?_)
      refine lv_goto (tgt := 4) hx hb dX0_running_31 (by decide) ?_
      exact ih4 (i + 1) (acc + ((if R (11 + 10 * i) = 0 then 0 else 1))) (by omega) (by simp [osum, hacc]) _ hS _ (lv_sub hl [2, 1, 0] rfl)
  exact loop4 3 0 0 rfl rfl _ hS _ (lv_sub hl [2, 1, 0] rfl)

set_option maxHeartbeats 600000 in
set_option maxRecDepth 100000 in
theorem c_X0_closedBreakers (l : Launch) (D : va_G) (G : Nat → ClassId) (b : Nat → Nat) (R : Nat → Int32) (H : Heap) (hB : BD D G b R H) : Met l yX0_closedBreakers wsX0_closedBreakers ({ frames := 1, cells := 0, slots := 0, locals := 20 } : Room) (va_Pc [.ref (b 0)] (CX D G H)) (QI nA (fun r h => H = h ∧ osum R 12 3 = r)) 0 0 (nA) := by
  refine Met.ofW (cc := cX0_closedBreakers) (maxL := 3) (ret := (some .int)) (by decide) rfl ?_
  intro p e s m args below meth c s₁ B0 hml hv
  obtain ⟨rfl, rfl, hK, hN⟩ := hv
  have hx := B0.exec
  have hb := B0.bytes
  have hr := B0.returns
  have hts := atoms_spec (ws := wsX0_closedBreakers) B0.pre
  have hown : s.vm.findClass RX0 = some m.cls := findClass_of_methodNamed B0.named
  have hlocks := B0.notSynchronized
  have hF : CallFix p m c cX0_closedBreakers 3 s ([.ref (b 0)] : List Value).toArray wsX0_closedBreakers RX0 := ⟨hx, hb, hml, hown, hts⟩
  have hS : va_S (nA) s.heap s.heap [] := va_S.rf
  have hl := lv_entry ([.ref (b 0)]) (n := 3) (Nat.le_of_ble_eq_true rfl)
  rw [lg_entry_eq]
  generalize (lg_sl ([.ref (b 0)]) ++ List.replicate (3 - (lg_sl ([.ref (b 0)])).length) Slot.unset).toArray = ls at hl ⊢
  have hl : lv_has ls 3 [(0, .ref (b 0))] := hl
  refine lv_iconst (v := 0) hx hb dX0_closedBreakers_0 (by decide) ?_
  refine lv_istore_n (lv' := [(1, .int 0), (0, .ref (b 0))]) hx hb dX0_closedBreakers_1 rfl hl (by decide) rfl (fun ls hl => ?_)
  refine lv_iconst (v := 0) hx hb dX0_closedBreakers_2 (by decide) ?_
  refine lv_istore_n (lv' := [(2, .int 0), (1, .int 0), (0, .ref (b 0))]) hx hb dX0_closedBreakers_3 rfl hl (by decide) rfl (fun ls hl => ?_)
  have loop4 : ∀ (n : Nat) (i : Nat) (acc : Int32) (_ : i + n = 3) (_ : acc = osum R 12 i) (locs : List Loc) (_ : va_S (nA) s.heap s.heap locs) (ls : Array Slot) (_ : lv_has ls 3 [(0, .ref (b 0)), (1, .int acc), (2, .int (nI i))]), W p l e (headSpec wsX0_closedBreakers ({ frames := 1, cells := 0, slots := 0, locals := 20 } : Room)).room s m ([.ref (b 0)] : List Value).toArray below meth c s.heap locs 0 0 (MQ below (QI nA (fun r h => s.heap = h ∧ osum R 12 3 = r)) ([.ref (b 0)] : List Value).toArray s 0 0 (nA)) (F0 m 4 ls []) := by
    intro n
    induction n with
    | zero =>
      intro i acc hin hacc locs hS ls hl
      have hi9 : i = 3 := by omega
      rw [hi9] at hacc
      refine lv_iload_n hx hb dX0_closedBreakers_4 rfl (lv_at hl 2 rfl) ?_
      refine lv_aload_n hx hb dX0_closedBreakers_5 rfl (lv_at hl 0 rfl) ?_
      refine dp_get hx hb hts (dp_hin 6 rfl) hown hK hB.1 rfl 0 (by decide) (hts (.fieldLink RX0 11 "DroopBoard$Board" "diesels" "[LDroopBoard$Diesel;") (List.mem_of_getElem? (i := 1) rfl)) rfl dX0_closedBreakers_6 ?_
      refine dp_alen hx hb hK hB.2.1 1 rfl dX0_closedBreakers_9 ?_
      refine lv_icmp_ge (tgt := 34) hx hb dX0_closedBreakers_10 (by decide) (fun c1 => ?_) (fun c1 => absurd (nI_le (a := 3) (b := i) (by omega) (by omega)) c1)
      refine lv_iload_n hx hb dX0_closedBreakers_34 rfl (lv_at hl 1 rfl) ?_
      exact W.iret hx hb hr (fun t ht hW => ⟨⟨acc, s.heap, rfl, ⟨rfl, hacc.symm⟩, ht⟩, hS.F ht⟩) hS.2.2 dX0_closedBreakers_35
    | succ n ih4 =>
      intro i acc hin hacc locs hS ls hl
      refine lv_iload_n hx hb dX0_closedBreakers_4 rfl (lv_at hl 2 rfl) ?_
      refine lv_aload_n hx hb dX0_closedBreakers_5 rfl (lv_at hl 0 rfl) ?_
      refine dp_get hx hb hts (dp_hin 6 rfl) hown hK hB.1 rfl 0 (by decide) (hts (.fieldLink RX0 11 "DroopBoard$Board" "diesels" "[LDroopBoard$Diesel;") (List.mem_of_getElem? (i := 1) rfl)) rfl dX0_closedBreakers_6 ?_
      refine dp_alen hx hb hK hB.2.1 1 rfl dX0_closedBreakers_9 ?_
      refine lv_icmp_ge (tgt := 34) hx hb dX0_closedBreakers_10 (by decide) (fun c2 => absurd c2 (nI_ge (a := i) (b := 3) (by omega) (by omega))) (fun c2 => ?_)
      refine lv_iload_n hx hb dX0_closedBreakers_13 rfl (lv_at hl 1 rfl) ?_
      refine lv_aload_n hx hb dX0_closedBreakers_14 rfl (lv_at hl 0 rfl) ?_
      refine dp_get hx hb hts (dp_hin 6 rfl) hown hK hB.1 rfl 0 (by decide) (hts (.fieldLink RX0 11 "DroopBoard$Board" "diesels" "[LDroopBoard$Diesel;") (List.mem_of_getElem? (i := 1) rfl)) rfl dX0_closedBreakers_15 ?_
      refine lv_iload_n hx hb dX0_closedBreakers_18 rfl (lv_at hl 2 rfl) ?_
      refine dp_aald hx hb hK hB.2.1 1 rfl i rfl (by omega) (by decide) rfl dX0_closedBreakers_19 ?_
      refine dp_get hx hb hts (dp_hin 11 rfl) hown hK (hB.2.2.2.2.1 i (by omega)) rfl 4 (by decide) (hts (.fieldLink RX0 45 "DroopBoard$Diesel" "closed" "Z") (List.mem_of_getElem? (i := 2) rfl)) rfl dX0_closedBreakers_20 ?_
      refine dp_SNi hF hK hN (c_X5_oneIf l D G (R (12 + 10 * i)) _) ⟨va_cnB 1 hts gX0_closedBreakers_X5_oneIf_n127 rfl rfl rfl hN.1 (hts (.initialized RX5) (List.mem_of_getElem? (i := 4) rfl)) (by decide +kernel) ⟨Nat.le_of_ble_eq_true rfl, Nat.le_of_ble_eq_true rfl⟩, (hts (.static yX5_oneIf) (List.mem_of_getElem? (i := 3) rfl)), trivial⟩ hS nA_i [.int acc] rfl rfl hl.1 (Nat.le_of_ble_eq_true rfl) dX0_closedBreakers_23 ⟨Nat.le_of_ble_eq_true rfl, Nat.le_of_ble_eq_true rfl⟩ (fun rH1 H1 locs hp hzH1 hkH1 hS => ?_)
      obtain ⟨rfl, rfl⟩ := hp
      refine lv_iadd hx hb dX0_closedBreakers_26 ?_
      refine lv_istore_n (lv' := [(1, .int (acc + ((if R (12 + 10 * i) = 0 then 0 else 1)))), (0, .ref (b 0)), (2, .int (nI i))]) hx hb dX0_closedBreakers_27 rfl hl (by decide) rfl (fun ls hl => ?_)
      refine lv_iinc (v := nI (i + 1)) (lv' := [(2, .int (nI (i + 1))), (1, .int (acc + ((if R (12 + 10 * i) = 0 then 0 else 1)))), (0, .ref (b 0))]) hx hb dX0_closedBreakers_28 hl (k := 2) rfl (nI_1 i) (by decide) rfl (fun ls hl => ?_)
      refine lv_goto (tgt := 4) hx hb dX0_closedBreakers_31 (by decide) ?_
      exact ih4 (i + 1) (acc + ((if R (12 + 10 * i) = 0 then 0 else 1))) (by omega) (by simp [osum, hacc]) _ hS _ (lv_sub hl [2, 1, 0] rfl)
  exact loop4 3 0 0 rfl rfl _ hS _ (lv_sub hl [2, 1, 0] rfl)

set_option maxHeartbeats 600000 in
set_option maxRecDepth 100000 in
theorem c_X0_ratingsClosed (l : Launch) (D : va_G) (G : Nat → ClassId) (b : Nat → Nat) (R : Nat → Int32) (H : Heap) (hB : BD D G b R H) : Met l yX0_ratingsClosed wsX0_ratingsClosed ({ frames := 0, cells := 0, slots := 0, locals := 0 } : Room) (va_Pc [.ref (b 0)] (CX D G H)) (QI nA (fun r h => H = h ∧ rat R 3 = r)) 0 0 (nA) := by
  refine Met.ofW (cc := cX0_ratingsClosed) (maxL := 3) (ret := (some .int)) (by decide) rfl ?_
  intro p e s m args below meth c s₁ B0 hml hv
  obtain ⟨rfl, rfl, hK, hN⟩ := hv
  have hx := B0.exec
  have hb := B0.bytes
  have hr := B0.returns
  have hts := atoms_spec (ws := wsX0_ratingsClosed) B0.pre
  have hown : s.vm.findClass RX0 = some m.cls := findClass_of_methodNamed B0.named
  have hlocks := B0.notSynchronized
  have hF : CallFix p m c cX0_ratingsClosed 3 s ([.ref (b 0)] : List Value).toArray wsX0_ratingsClosed RX0 := ⟨hx, hb, hml, hown, hts⟩
  have hS : va_S (nA) s.heap s.heap [] := va_S.rf
  have hl := lv_entry ([.ref (b 0)]) (n := 3) (Nat.le_of_ble_eq_true rfl)
  rw [lg_entry_eq]
  generalize (lg_sl ([.ref (b 0)]) ++ List.replicate (3 - (lg_sl ([.ref (b 0)])).length) Slot.unset).toArray = ls at hl ⊢
  have hl : lv_has ls 3 [(0, .ref (b 0))] := hl
  refine lv_iconst (v := 0) hx hb dX0_ratingsClosed_0 (by decide) ?_
  refine lv_istore_n (lv' := [(1, .int 0), (0, .ref (b 0))]) hx hb dX0_ratingsClosed_1 rfl hl (by decide) rfl (fun ls hl => ?_)
  refine lv_iconst (v := 0) hx hb dX0_ratingsClosed_2 (by decide) ?_
  refine lv_istore_n (lv' := [(2, .int 0), (1, .int 0), (0, .ref (b 0))]) hx hb dX0_ratingsClosed_3 rfl hl (by decide) rfl (fun ls hl => ?_)
  have loop4 : ∀ (n : Nat) (i : Nat) (acc : Int32) (_ : i + n = 3) (_ : acc = rat R i) (locs : List Loc) (_ : va_S (nA) s.heap s.heap locs) (ls : Array Slot) (_ : lv_has ls 3 [(0, .ref (b 0)), (1, .int acc), (2, .int (nI i))]), W p l e (headSpec wsX0_ratingsClosed ({ frames := 0, cells := 0, slots := 0, locals := 0 } : Room)).room s m ([.ref (b 0)] : List Value).toArray below meth c s.heap locs 0 0 (MQ below (QI nA (fun r h => s.heap = h ∧ rat R 3 = r)) ([.ref (b 0)] : List Value).toArray s 0 0 (nA)) (F0 m 4 ls []) := by
    intro n
    induction n with
    | zero =>
      intro i acc hin hacc locs hS ls hl
      have hi9 : i = 3 := by omega
      rw [hi9] at hacc
      refine lv_iload_n hx hb dX0_ratingsClosed_4 rfl (lv_at hl 2 rfl) ?_
      refine lv_aload_n hx hb dX0_ratingsClosed_5 rfl (lv_at hl 0 rfl) ?_
      refine dp_get hx hb hts (dp_hin 4 rfl) hown hK hB.1 rfl 0 (by decide) (hts (.fieldLink RX0 11 "DroopBoard$Board" "diesels" "[LDroopBoard$Diesel;") (List.mem_of_getElem? (i := 1) rfl)) rfl dX0_ratingsClosed_6 ?_
      refine dp_alen hx hb hK hB.2.1 1 rfl dX0_ratingsClosed_9 ?_
      refine lv_icmp_ge (tgt := 43) hx hb dX0_ratingsClosed_10 (by decide) (fun c1 => ?_) (fun c1 => absurd (nI_le (a := 3) (b := i) (by omega) (by omega)) c1)
      refine lv_iload_n hx hb dX0_ratingsClosed_43 rfl (lv_at hl 1 rfl) ?_
      exact W.iret hx hb hr (fun t ht hW => ⟨⟨acc, s.heap, rfl, ⟨rfl, hacc.symm⟩, ht⟩, hS.F ht⟩) hS.2.2 dX0_ratingsClosed_44
    | succ n ih4 =>
      intro i acc hin hacc locs hS ls hl
      refine lv_iload_n hx hb dX0_ratingsClosed_4 rfl (lv_at hl 2 rfl) ?_
      refine lv_aload_n hx hb dX0_ratingsClosed_5 rfl (lv_at hl 0 rfl) ?_
      refine dp_get hx hb hts (dp_hin 4 rfl) hown hK hB.1 rfl 0 (by decide) (hts (.fieldLink RX0 11 "DroopBoard$Board" "diesels" "[LDroopBoard$Diesel;") (List.mem_of_getElem? (i := 1) rfl)) rfl dX0_ratingsClosed_6 ?_
      refine dp_alen hx hb hK hB.2.1 1 rfl dX0_ratingsClosed_9 ?_
      refine lv_icmp_ge (tgt := 43) hx hb dX0_ratingsClosed_10 (by decide) (fun c2 => absurd c2 (nI_ge (a := i) (b := 3) (by omega) (by omega))) (fun c2 => ?_)
      refine lv_aload_n hx hb dX0_ratingsClosed_13 rfl (lv_at hl 0 rfl) ?_
      refine dp_get hx hb hts (dp_hin 4 rfl) hown hK hB.1 rfl 0 (by decide) (hts (.fieldLink RX0 11 "DroopBoard$Board" "diesels" "[LDroopBoard$Diesel;") (List.mem_of_getElem? (i := 1) rfl)) rfl dX0_ratingsClosed_14 ?_
      refine lv_iload_n hx hb dX0_ratingsClosed_17 rfl (lv_at hl 2 rfl) ?_
      refine dp_aald hx hb hK hB.2.1 1 rfl i rfl (by omega) (by decide) rfl dX0_ratingsClosed_18 ?_
      refine dp_get hx hb hts (dp_hin 9 rfl) hown hK (hB.2.2.2.2.1 i (by omega)) rfl 4 (by decide) (hts (.fieldLink RX0 45 "DroopBoard$Diesel" "closed" "Z") (List.mem_of_getElem? (i := 2) rfl)) rfl dX0_ratingsClosed_19 ?_
      refine lv_if_eq (tgt := 37) hx hb dX0_ratingsClosed_22 (by decide) (fun c3 => ?_) (fun c3 => ?_)
      · refine lv_iinc (v := nI (i + 1)) (lv' := [(2, .int (nI (i + 1))), (0, .ref (b 0)), (1, .int acc)]) hx hb dX0_ratingsClosed_37 hl (k := 2) rfl (nI_1 i) (by decide) rfl (fun ls hl => ?_)
        refine lv_goto (tgt := 4) hx hb dX0_ratingsClosed_40 (by decide) ?_
        exact ih4 (i + 1) acc (by omega) (by simp [rat, hacc, c3]) _ hS _ (lv_sub hl [1, 2, 0] rfl)
      refine lv_iload_n hx hb dX0_ratingsClosed_25 rfl (lv_at hl 1 rfl) ?_
      refine lv_aload_n hx hb dX0_ratingsClosed_26 rfl (lv_at hl 0 rfl) ?_
      refine dp_get hx hb hts (dp_hin 4 rfl) hown hK hB.1 rfl 0 (by decide) (hts (.fieldLink RX0 11 "DroopBoard$Board" "diesels" "[LDroopBoard$Diesel;") (List.mem_of_getElem? (i := 1) rfl)) rfl dX0_ratingsClosed_27 ?_
      refine lv_iload_n hx hb dX0_ratingsClosed_30 rfl (lv_at hl 2 rfl) ?_
      refine dp_aald hx hb hK hB.2.1 1 rfl i rfl (by omega) (by decide) rfl dX0_ratingsClosed_31 ?_
      refine dp_get hx hb hts (dp_hin 9 rfl) hown hK (hB.2.2.2.2.1 i (by omega)) rfl 0 (by decide) (hts (.fieldLink RX0 131 "DroopBoard$Diesel" "rating" "I") (List.mem_of_getElem? (i := 3) rfl)) rfl dX0_ratingsClosed_32 ?_
      refine lv_iadd hx hb dX0_ratingsClosed_35 ?_
      refine lv_istore_n (lv' := [(1, .int (acc + (R (8 + 10 * i)))), (0, .ref (b 0)), (2, .int (nI i))]) hx hb dX0_ratingsClosed_36 rfl hl (by decide) rfl (fun ls hl => ?_)
      refine lv_iinc (v := nI (i + 1)) (lv' := [(2, .int (nI (i + 1))), (1, .int (acc + (R (8 + 10 * i)))), (0, .ref (b 0))]) hx hb dX0_ratingsClosed_37 hl (k := 2) rfl (nI_1 i) (by decide) rfl (fun ls hl => ?_)
      refine lv_goto (tgt := 4) hx hb dX0_ratingsClosed_40 (by decide) ?_
      exact ih4 (i + 1) (acc + (R (8 + 10 * i))) (by omega) (by simp [rat, hacc, c3]) _ hS _ (lv_sub hl [2, 1, 0] rfl)
  exact loop4 3 0 0 rfl rfl _ hS _ (lv_sub hl [2, 1, 0] rfl)

set_option maxHeartbeats 600000 in
set_option maxRecDepth 100000 in
theorem c_X0_trips (l : Launch) (D : va_G) (G : Nat → ClassId) (b : Nat → Nat) (R : Nat → Int32) (H : Heap) (hB : BD D G b R H) : Met l yX0_trips wsX0_trips ({ frames := 0, cells := 0, slots := 0, locals := 0 } : Room) (va_Pc [.ref (b 0)] (CX D G H)) (QI nA (fun r h => H = h ∧ wsum R 17 10 3 = r)) 0 0 (nA) := by
  refine Met.ofW (cc := cX0_trips) (maxL := 3) (ret := (some .int)) (by decide) rfl ?_
  intro p e s m args below meth c s₁ B0 hml hv
  obtain ⟨rfl, rfl, hK, hN⟩ := hv
  have hx := B0.exec
  have hb := B0.bytes
  have hr := B0.returns
  have hts := atoms_spec (ws := wsX0_trips) B0.pre
  have hown : s.vm.findClass RX0 = some m.cls := findClass_of_methodNamed B0.named
  have hlocks := B0.notSynchronized
  have hF : CallFix p m c cX0_trips 3 s ([.ref (b 0)] : List Value).toArray wsX0_trips RX0 := ⟨hx, hb, hml, hown, hts⟩
  have hS : va_S (nA) s.heap s.heap [] := va_S.rf
  have hl := lv_entry ([.ref (b 0)]) (n := 3) (Nat.le_of_ble_eq_true rfl)
  rw [lg_entry_eq]
  generalize (lg_sl ([.ref (b 0)]) ++ List.replicate (3 - (lg_sl ([.ref (b 0)])).length) Slot.unset).toArray = ls at hl ⊢
  have hl : lv_has ls 3 [(0, .ref (b 0))] := hl
  refine lv_iconst (v := 0) hx hb dX0_trips_0 (by decide) ?_
  refine lv_istore_n (lv' := [(1, .int 0), (0, .ref (b 0))]) hx hb dX0_trips_1 rfl hl (by decide) rfl (fun ls hl => ?_)
  refine lv_iconst (v := 0) hx hb dX0_trips_2 (by decide) ?_
  refine lv_istore_n (lv' := [(2, .int 0), (1, .int 0), (0, .ref (b 0))]) hx hb dX0_trips_3 rfl hl (by decide) rfl (fun ls hl => ?_)
  have loop4 : ∀ (n : Nat) (i : Nat) (acc : Int32) (_ : i + n = 3) (_ : acc = wsum R 17 10 i) (locs : List Loc) (_ : va_S (nA) s.heap s.heap locs) (ls : Array Slot) (_ : lv_has ls 3 [(0, .ref (b 0)), (1, .int acc), (2, .int (nI i))]), W p l e (headSpec wsX0_trips ({ frames := 0, cells := 0, slots := 0, locals := 0 } : Room)).room s m ([.ref (b 0)] : List Value).toArray below meth c s.heap locs 0 0 (MQ below (QI nA (fun r h => s.heap = h ∧ wsum R 17 10 3 = r)) ([.ref (b 0)] : List Value).toArray s 0 0 (nA)) (F0 m 4 ls []) := by
    intro n
    induction n with
    | zero =>
      intro i acc hin hacc locs hS ls hl
      have hi9 : i = 3 := by omega
      rw [hi9] at hacc
      refine lv_iload_n hx hb dX0_trips_4 rfl (lv_at hl 2 rfl) ?_
      refine lv_aload_n hx hb dX0_trips_5 rfl (lv_at hl 0 rfl) ?_
      refine dp_get hx hb hts (dp_hin 3 rfl) hown hK hB.1 rfl 0 (by decide) (hts (.fieldLink RX0 11 "DroopBoard$Board" "diesels" "[LDroopBoard$Diesel;") (List.mem_of_getElem? (i := 1) rfl)) rfl dX0_trips_6 ?_
      refine dp_alen hx hb hK hB.2.1 1 rfl dX0_trips_9 ?_
      refine lv_icmp_ge (tgt := 31) hx hb dX0_trips_10 (by decide) (fun c1 => ?_) (fun c1 => absurd (nI_le (a := 3) (b := i) (by omega) (by omega)) c1)
      refine lv_iload_n hx hb dX0_trips_31 rfl (lv_at hl 1 rfl) ?_
      exact W.iret hx hb hr (fun t ht hW => ⟨⟨acc, s.heap, rfl, ⟨rfl, hacc.symm⟩, ht⟩, hS.F ht⟩) hS.2.2 dX0_trips_32
    | succ n ih4 =>
      intro i acc hin hacc locs hS ls hl
      refine lv_iload_n hx hb dX0_trips_4 rfl (lv_at hl 2 rfl) ?_
      refine lv_aload_n hx hb dX0_trips_5 rfl (lv_at hl 0 rfl) ?_
      refine dp_get hx hb hts (dp_hin 3 rfl) hown hK hB.1 rfl 0 (by decide) (hts (.fieldLink RX0 11 "DroopBoard$Board" "diesels" "[LDroopBoard$Diesel;") (List.mem_of_getElem? (i := 1) rfl)) rfl dX0_trips_6 ?_
      refine dp_alen hx hb hK hB.2.1 1 rfl dX0_trips_9 ?_
      refine lv_icmp_ge (tgt := 31) hx hb dX0_trips_10 (by decide) (fun c2 => absurd c2 (nI_ge (a := i) (b := 3) (by omega) (by omega))) (fun c2 => ?_)
      refine lv_iload_n hx hb dX0_trips_13 rfl (lv_at hl 1 rfl) ?_
      refine lv_aload_n hx hb dX0_trips_14 rfl (lv_at hl 0 rfl) ?_
      refine dp_get hx hb hts (dp_hin 3 rfl) hown hK hB.1 rfl 0 (by decide) (hts (.fieldLink RX0 11 "DroopBoard$Board" "diesels" "[LDroopBoard$Diesel;") (List.mem_of_getElem? (i := 1) rfl)) rfl dX0_trips_15 ?_
      refine lv_iload_n hx hb dX0_trips_18 rfl (lv_at hl 2 rfl) ?_
      refine dp_aald hx hb hK hB.2.1 1 rfl i rfl (by omega) (by decide) rfl dX0_trips_19 ?_
      refine dp_get hx hb hts (dp_hin 8 rfl) hown hK (hB.2.2.2.2.1 i (by omega)) rfl 9 (by decide) (hts (.fieldLink RX0 124 "DroopBoard$Diesel" "trips" "I") (List.mem_of_getElem? (i := 2) rfl)) rfl dX0_trips_20 ?_
      refine lv_iadd hx hb dX0_trips_23 ?_
      refine lv_istore_n (lv' := [(1, .int (acc + (R (17 + 10 * i)))), (0, .ref (b 0)), (2, .int (nI i))]) hx hb dX0_trips_24 rfl hl (by decide) rfl (fun ls hl => ?_)
      refine lv_iinc (v := nI (i + 1)) (lv' := [(2, .int (nI (i + 1))), (1, .int (acc + (R (17 + 10 * i)))), (0, .ref (b 0))]) hx hb dX0_trips_25 hl (k := 2) rfl (nI_1 i) (by decide) rfl (fun ls hl => ?_)
      refine lv_goto (tgt := 4) hx hb dX0_trips_28 (by decide) ?_
      exact ih4 (i + 1) (acc + (R (17 + 10 * i))) (by omega) (by simp [wsum, hacc]) _ hS _ (lv_sub hl [2, 1, 0] rfl)
  exact loop4 3 0 0 rfl rfl _ hS _ (lv_sub hl [2, 1, 0] rfl)

set_option maxHeartbeats 600000 in
set_option maxRecDepth 100000 in
theorem c_X0_sheds (l : Launch) (D : va_G) (G : Nat → ClassId) (b : Nat → Nat) (R : Nat → Int32) (H : Heap) (hB : BD D G b R H) : Met l yX0_sheds wsX0_sheds ({ frames := 0, cells := 0, slots := 0, locals := 0 } : Room) (va_Pc [.ref (b 0)] (CX D G H)) (QI nA (fun r h => H = h ∧ wsum R 40 3 4 = r)) 0 0 (nA) := by
  refine Met.ofW (cc := cX0_sheds) (maxL := 3) (ret := (some .int)) (by decide) rfl ?_
  intro p e s m args below meth c s₁ B0 hml hv
  obtain ⟨rfl, rfl, hK, hN⟩ := hv
  have hx := B0.exec
  have hb := B0.bytes
  have hr := B0.returns
  have hts := atoms_spec (ws := wsX0_sheds) B0.pre
  have hown : s.vm.findClass RX0 = some m.cls := findClass_of_methodNamed B0.named
  have hlocks := B0.notSynchronized
  have hF : CallFix p m c cX0_sheds 3 s ([.ref (b 0)] : List Value).toArray wsX0_sheds RX0 := ⟨hx, hb, hml, hown, hts⟩
  have hS : va_S (nA) s.heap s.heap [] := va_S.rf
  have hl := lv_entry ([.ref (b 0)]) (n := 3) (Nat.le_of_ble_eq_true rfl)
  rw [lg_entry_eq]
  generalize (lg_sl ([.ref (b 0)]) ++ List.replicate (3 - (lg_sl ([.ref (b 0)])).length) Slot.unset).toArray = ls at hl ⊢
  have hl : lv_has ls 3 [(0, .ref (b 0))] := hl
  refine lv_iconst (v := 0) hx hb dX0_sheds_0 (by decide) ?_
  refine lv_istore_n (lv' := [(1, .int 0), (0, .ref (b 0))]) hx hb dX0_sheds_1 rfl hl (by decide) rfl (fun ls hl => ?_)
  refine lv_iconst (v := 0) hx hb dX0_sheds_2 (by decide) ?_
  refine lv_istore_n (lv' := [(2, .int 0), (1, .int 0), (0, .ref (b 0))]) hx hb dX0_sheds_3 rfl hl (by decide) rfl (fun ls hl => ?_)
  have loop4 : ∀ (n : Nat) (i : Nat) (acc : Int32) (_ : i + n = 4) (_ : acc = wsum R 40 3 i) (locs : List Loc) (_ : va_S (nA) s.heap s.heap locs) (ls : Array Slot) (_ : lv_has ls 3 [(0, .ref (b 0)), (1, .int acc), (2, .int (nI i))]), W p l e (headSpec wsX0_sheds ({ frames := 0, cells := 0, slots := 0, locals := 0 } : Room)).room s m ([.ref (b 0)] : List Value).toArray below meth c s.heap locs 0 0 (MQ below (QI nA (fun r h => s.heap = h ∧ wsum R 40 3 4 = r)) ([.ref (b 0)] : List Value).toArray s 0 0 (nA)) (F0 m 4 ls []) := by
    intro n
    induction n with
    | zero =>
      intro i acc hin hacc locs hS ls hl
      have hi9 : i = 4 := by omega
      rw [hi9] at hacc
      refine lv_iload_n hx hb dX0_sheds_4 rfl (lv_at hl 2 rfl) ?_
      refine lv_aload_n hx hb dX0_sheds_5 rfl (lv_at hl 0 rfl) ?_
      refine dp_get hx hb hts (dp_hin 3 rfl) hown hK hB.1 rfl 1 (by decide) (hts (.fieldLink RX0 19 "DroopBoard$Board" "feeders" "[LDroopBoard$Feeder;") (List.mem_of_getElem? (i := 1) rfl)) rfl dX0_sheds_6 ?_
      refine dp_alen hx hb hK hB.2.2.1 2 rfl dX0_sheds_9 ?_
      refine lv_icmp_ge (tgt := 31) hx hb dX0_sheds_10 (by decide) (fun c1 => ?_) (fun c1 => absurd (nI_le (a := 4) (b := i) (by omega) (by omega)) c1)
      refine lv_iload_n hx hb dX0_sheds_31 rfl (lv_at hl 1 rfl) ?_
      exact W.iret hx hb hr (fun t ht hW => ⟨⟨acc, s.heap, rfl, ⟨rfl, hacc.symm⟩, ht⟩, hS.F ht⟩) hS.2.2 dX0_sheds_32
    | succ n ih4 =>
      intro i acc hin hacc locs hS ls hl
      refine lv_iload_n hx hb dX0_sheds_4 rfl (lv_at hl 2 rfl) ?_
      refine lv_aload_n hx hb dX0_sheds_5 rfl (lv_at hl 0 rfl) ?_
      refine dp_get hx hb hts (dp_hin 3 rfl) hown hK hB.1 rfl 1 (by decide) (hts (.fieldLink RX0 19 "DroopBoard$Board" "feeders" "[LDroopBoard$Feeder;") (List.mem_of_getElem? (i := 1) rfl)) rfl dX0_sheds_6 ?_
      refine dp_alen hx hb hK hB.2.2.1 2 rfl dX0_sheds_9 ?_
      refine lv_icmp_ge (tgt := 31) hx hb dX0_sheds_10 (by decide) (fun c2 => absurd c2 (nI_ge (a := i) (b := 4) (by omega) (by omega))) (fun c2 => ?_)
      refine lv_iload_n hx hb dX0_sheds_13 rfl (lv_at hl 1 rfl) ?_
      refine lv_aload_n hx hb dX0_sheds_14 rfl (lv_at hl 0 rfl) ?_
      refine dp_get hx hb hts (dp_hin 3 rfl) hown hK hB.1 rfl 1 (by decide) (hts (.fieldLink RX0 19 "DroopBoard$Board" "feeders" "[LDroopBoard$Feeder;") (List.mem_of_getElem? (i := 1) rfl)) rfl dX0_sheds_15 ?_
      refine lv_iload_n hx hb dX0_sheds_18 rfl (lv_at hl 2 rfl) ?_
      refine dp_aald hx hb hK hB.2.2.1 2 rfl i rfl (by omega) (by decide) rfl dX0_sheds_19 ?_
      refine dp_get hx hb hts (dp_hin 8 rfl) hown hK (hB.2.2.2.2.2 i (by omega)) rfl 2 (by decide) (hts (.fieldLink RX0 112 "DroopBoard$Feeder" "sheds" "I") (List.mem_of_getElem? (i := 2) rfl)) rfl dX0_sheds_20 ?_
      refine lv_iadd hx hb dX0_sheds_23 ?_
      refine lv_istore_n (lv' := [(1, .int (acc + (R (40 + 3 * i)))), (0, .ref (b 0)), (2, .int (nI i))]) hx hb dX0_sheds_24 rfl hl (by decide) rfl (fun ls hl => ?_)
      refine lv_iinc (v := nI (i + 1)) (lv' := [(2, .int (nI (i + 1))), (1, .int (acc + (R (40 + 3 * i)))), (0, .ref (b 0))]) hx hb dX0_sheds_25 hl (k := 2) rfl (nI_1 i) (by decide) rfl (fun ls hl => ?_)
      refine lv_goto (tgt := 4) hx hb dX0_sheds_28 (by decide) ?_
      exact ih4 (i + 1) (acc + (R (40 + 3 * i))) (by omega) (by simp [wsum, hacc]) _ hS _ (lv_sub hl [2, 1, 0] rfl)
  exact loop4 4 0 0 rfl rfl _ hS _ (lv_sub hl [2, 1, 0] rfl)

set_option maxHeartbeats 600000 in
set_option maxRecDepth 100000 in
theorem c_X0_frequency (l : Launch) (D : va_G) (G : Nat → ClassId) (b : Nat → Nat) (R : Nat → Int32) (H : Heap) (hB : BD D G b R H) (hm : ∀ j k, j ≤ k → k ≤ 600 → fok R k = true → fok R j = true) : Met l yX0_frequency wsX0_frequency ({ frames := 2, cells := 0, slots := 0, locals := 44 } : Room) (va_Pc [.ref (b 0)] (CX D G H)) (QI nA (fun r h => H = h ∧ fq R = r)) 0 0 (nA) := by
  refine Met.ofW (cc := cX0_frequency) (maxL := 6) (ret := (some .int)) (by decide) rfl ?_
  intro p e s m args below meth c s₁ B0 hml hv
  obtain ⟨rfl, rfl, hK, hN⟩ := hv
  have hx := B0.exec
  have hb := B0.bytes
  have hr := B0.returns
  have hts := atoms_spec (ws := wsX0_frequency) B0.pre
  have hown : s.vm.findClass RX0 = some m.cls := findClass_of_methodNamed B0.named
  have hlocks := B0.notSynchronized
  have hF : CallFix p m c cX0_frequency 6 s ([.ref (b 0)] : List Value).toArray wsX0_frequency RX0 := ⟨hx, hb, hml, hown, hts⟩
  have hS : va_S (nA) s.heap s.heap [] := va_S.rf
  have hl := lv_entry ([.ref (b 0)]) (n := 6) (Nat.le_of_ble_eq_true rfl)
  rw [lg_entry_eq]
  generalize (lg_sl ([.ref (b 0)]) ++ List.replicate (6 - (lg_sl ([.ref (b 0)])).length) Slot.unset).toArray = ls at hl ⊢
  have hl : lv_has ls 6 [(0, .ref (b 0))] := hl
  refine lv_aload_n hx hb dX0_frequency_0 rfl (lv_at hl 0 rfl) ?_
  refine dp_Vi hF hK hN (c_X0_alive l D G b R _ hB) (cwV 0 hts gX0_frequency_X0_alive rfl rfl rfl (by decide +kernel) ⟨Nat.le_of_ble_eq_true rfl, Nat.le_of_ble_eq_true rfl⟩) (dp_recv hK hB.1 rfl) hS nA_i [] rfl rfl hl.1 (Nat.le_of_ble_eq_true rfl) dX0_frequency_1 ⟨Nat.le_of_ble_eq_true rfl, Nat.le_of_ble_eq_true rfl⟩ (fun rH1 H1 locs hp hzH1 hkH1 hS => ?_)
  obtain ⟨rfl, rfl⟩ := hp
  refine lv_if_ne (tgt := 9) hx hb dX0_frequency_4 (by decide) (fun c1 => ?_) (fun c1 => ?_)
  · refine lv_aload_n hx hb dX0_frequency_9 rfl (lv_at hl 0 rfl) ?_
    refine dp_Vi hF hK hN (c_X0_demand l D G b R _ hB) (cwV 0 hts gX0_frequency_X0_demand rfl rfl rfl (by decide +kernel) ⟨Nat.le_of_ble_eq_true rfl, Nat.le_of_ble_eq_true rfl⟩) (dp_recv hK hB.1 rfl) hS nA_i [] rfl rfl hl.1 (Nat.le_of_ble_eq_true rfl) dX0_frequency_10 ⟨Nat.le_of_ble_eq_true rfl, Nat.le_of_ble_eq_true rfl⟩ (fun rH2 H2 locs hp hzH2 hkH2 hS => ?_)
    obtain ⟨rfl, rfl⟩ := hp
    refine lv_istore_n (lv' := [(1, .int (ld R)), (0, .ref (b 0))]) hx hb dX0_frequency_13 rfl hl (by decide) rfl (fun ls hl => ?_)
    refine lv_sipush (v := 4700) hx hb dX0_frequency_14 (by decide) ?_
    refine lv_istore_n (lv' := [(2, .int 4700), (1, .int (ld R)), (0, .ref (b 0))]) hx hb dX0_frequency_17 rfl hl (by decide) rfl (fun ls hl => ?_)
    refine lv_sipush (v := 5300) hx hb dX0_frequency_18 (by decide) ?_
    refine lv_istore_n (lv' := [(3, .int 5300), (2, .int 4700), (1, .int (ld R)), (0, .ref (b 0))]) hx hb dX0_frequency_21 rfl hl (by decide) rfl (fun ls hl => ?_)
    refine lv_iconst (v := 0) hx hb dX0_frequency_22 (by decide) ?_
    refine lv_istore (lv' := [(4, .int 0), (3, .int 5300), (2, .int 4700), (1, .int (ld R)), (0, .ref (b 0))]) hx hb dX0_frequency_23 hl (by decide) rfl (fun ls hl => ?_)
    have loop25 : ∀ (n : Nat) (i : Nat) (lo : Nat) (hi : Nat) (_ : i + n = 10) (_ : lo ≤ hi) (_ : hi ≤ 600) (_ : hi - lo < 2 ^ n) (_ : lo = 0 ∨ fok R lo = true) (_ : ∀ k, hi < k → k ≤ 600 → fok R k = false) (locs : List Loc) (_ : va_S (nA) s.heap s.heap locs) (ls : Array Slot) (_ : lv_has ls 6 [(0, .ref (b 0)), (1, .int (ld R)), (2, .int (nI (4700 + lo))), (3, .int (nI (4700 + hi))), (4, .int (nI i))]), W p l e (headSpec wsX0_frequency ({ frames := 2, cells := 0, slots := 0, locals := 44 } : Room)).room s m ([.ref (b 0)] : List Value).toArray below meth c s.heap locs 0 0 (MQ below (QI nA (fun r h => s.heap = h ∧ fq R = r)) ([.ref (b 0)] : List Value).toArray s 0 0 (nA)) (F0 m 25 ls []) := by
      intro n
      induction n with
      | zero =>
        intro i lo hi hin hlh hh hw h0 h1 locs hS ls hl
        have hi9 : i = 10 := by omega
        have hlo : lo = hi := by simp at hw; omega
        refine lv_iload hx hb dX0_frequency_25 (lv_at hl 4 rfl) ?_
        refine lv_bipush (v := 10) hx hb dX0_frequency_27 (by decide) ?_
        refine lv_icmp_ge (tgt := 73) hx hb dX0_frequency_29 (by decide) (fun c2 => ?_) (fun c2 => absurd (nI_le (a := 10) (b := i) (by omega) (by omega)) c2)
        refine lv_iload_n hx hb dX0_frequency_73 rfl (lv_at hl 2 rfl) ?_
        exact W.iret hx hb hr (fun t ht hW => ⟨⟨nI (4700 + lo), s.heap, rfl, ⟨rfl, (fq_of c1 (fsb_eq (by omega) h0 (fun k q1 q2 => h1 k (by omega) q2))).symm⟩, ht⟩, hS.F ht⟩) hS.2.2 dX0_frequency_74
      | succ n ih25 =>
        intro i lo hi hin hlh hh hw h0 h1 locs hS ls hl
        obtain ⟨mid, hmid⟩ : ∃ z, z = (lo + hi + 1) / 2 := ⟨_, rfl⟩
        refine lv_iload hx hb dX0_frequency_25 (lv_at hl 4 rfl) ?_
        refine lv_bipush (v := 10) hx hb dX0_frequency_27 (by decide) ?_
        refine lv_icmp_ge (tgt := 73) hx hb dX0_frequency_29 (by decide) (fun c3 => absurd c3 (nI_ge (a := i) (b := 10) (by omega) (by omega))) (fun c3 => ?_)
        refine lv_iload_n hx hb dX0_frequency_32 rfl (lv_at hl 2 rfl) ?_
        refine lv_iload_n hx hb dX0_frequency_33 rfl (lv_at hl 3 rfl) ?_
        refine lv_icmp_ge (tgt := 73) hx hb dX0_frequency_34 (by decide) (fun c4 => ?_) (fun c4 => ?_)
        · have hlo : lo = hi := by rcases Nat.lt_or_ge lo hi with q | q; exact absurd c4 (nI_ge (by omega) (by omega)); omega
          refine lv_iload_n hx hb dX0_frequency_73 rfl (lv_at hl 2 rfl) ?_
          exact W.iret hx hb hr (fun t ht hW => ⟨⟨nI (4700 + lo), s.heap, rfl, ⟨rfl, (fq_of c1 (fsb_eq (by omega) h0 (fun k q1 q2 => h1 k (by omega) q2))).symm⟩, ht⟩, hS.F ht⟩) hS.2.2 dX0_frequency_74
        have hlt : lo < hi := by rcases Nat.lt_or_ge lo hi with q | q; exact q; exact absurd (nI_le (a := 4700 + hi) (b := 4700 + lo) (by omega) (by omega)) c4
        refine lv_iload_n hx hb dX0_frequency_37 rfl (lv_at hl 2 rfl) ?_
        refine lv_iload_n hx hb dX0_frequency_38 rfl (lv_at hl 3 rfl) ?_
        refine lv_iadd hx hb dX0_frequency_39 ?_
        refine lv_iconst (v := 1) hx hb dX0_frequency_40 (by decide) ?_
        refine lv_iadd hx hb dX0_frequency_41 ?_
        refine lv_iconst (v := 2) hx hb dX0_frequency_42 (by decide) ?_
        refine lv_idiv hx hb dX0_frequency_43 (by decide) ?_
        rw [half_eq (lo := lo) (hi := hi) (by omega) hmid]
        refine lv_istore (lv' := [(5, .int (nI (4700 + mid))), (0, .ref (b 0)), (1, .int (ld R)), (2, .int (nI (4700 + lo))), (3, .int (nI (4700 + hi))), (4, .int (nI i))]) hx hb dX0_frequency_44 hl (by decide) rfl (fun ls hl => ?_)
        refine lv_aload_n hx hb dX0_frequency_46 rfl (lv_at hl 1 rfl) ?_
        refine lv_iload hx hb dX0_frequency_47 (lv_at hl 0 rfl) ?_
        refine dp_Vi hF hK hN (c_X0_total l D G b R (nI (4700 + mid)) _ hB) (cwV 1 hts gX0_frequency_X0_total rfl rfl rfl (by decide +kernel) ⟨Nat.le_of_ble_eq_true rfl, Nat.le_of_ble_eq_true rfl⟩) (dp_recv hK hB.1 rfl) hS nA_i [] rfl rfl hl.1 (Nat.le_of_ble_eq_true rfl) dX0_frequency_49 ⟨Nat.le_of_ble_eq_true rfl, Nat.le_of_ble_eq_true rfl⟩ (fun rH3 H3 locs hp hzH3 hkH3 hS => ?_)
        obtain ⟨rfl, rfl⟩ := hp
        refine lv_iload_n hx hb dX0_frequency_52 rfl (lv_at hl 2 rfl) ?_
        refine lv_icmp_lt (tgt := 62) hx hb dX0_frequency_53 (by decide) (fun c5 => ?_) (fun c5 => ?_)
        · refine lv_iload hx hb dX0_frequency_62 (lv_at hl 0 rfl) ?_
          refine lv_iconst (v := 1) hx hb dX0_frequency_64 (by decide) ?_
          refine lv_isub hx hb dX0_frequency_65 ?_
          rw [fd_pred (k := mid) (by omega)]
          refine lv_istore_n (lv' := [(3, .int (nI (4700 + (mid - 1)))), (5, .int (nI (4700 + mid))), (0, .ref (b 0)), (1, .int (ld R)), (2, .int (nI (4700 + lo))), (4, .int (nI i))]) hx hb dX0_frequency_66 rfl hl (by decide) rfl (fun ls hl => ?_)
          refine lv_iinc (v := nI (i + 1)) (lv' := [(4, .int (nI (i + 1))), (3, .int (nI (4700 + (mid - 1)))), (5, .int (nI (4700 + mid))), (0, .ref (b 0)), (1, .int (ld R)), (2, .int (nI (4700 + lo)))]) hx hb dX0_frequency_67 hl (k := 5) rfl (nI_1 i) (by decide) rfl (fun ls hl => ?_)
          refine lv_goto (tgt := 25) hx hb dX0_frequency_70 (by decide) ?_
          exact ih25 (i + 1) lo (mid - 1) (by omega) (by omega) (by omega) (hv_hw hw (by omega)) h0 (fun k q1 q2 => fok_n hm (by omega) q2 (fok_f c5)) _ hS _ (lv_sub hl [3, 4, 5, 1, 0] rfl)
        refine lv_iload hx hb dX0_frequency_56 (lv_at hl 0 rfl) ?_
        refine lv_istore_n (lv' := [(2, .int (nI (4700 + mid))), (5, .int (nI (4700 + mid))), (0, .ref (b 0)), (1, .int (ld R)), (3, .int (nI (4700 + hi))), (4, .int (nI i))]) hx hb dX0_frequency_58 rfl hl (by decide) rfl (fun ls hl => ?_)
        refine lv_goto (tgt := 67) hx hb dX0_frequency_59 (by decide) ?_
        refine lv_iinc (v := nI (i + 1)) (lv' := [(4, .int (nI (i + 1))), (2, .int (nI (4700 + mid))), (5, .int (nI (4700 + mid))), (0, .ref (b 0)), (1, .int (ld R)), (3, .int (nI (4700 + hi)))]) hx hb dX0_frequency_67 hl (k := 5) rfl (nI_1 i) (by decide) rfl (fun ls hl => ?_)
        refine lv_goto (tgt := 25) hx hb dX0_frequency_70 (by decide) ?_
        exact ih25 (i + 1) mid hi (by omega) (by omega) hh (hv_hw hw (by omega)) (Or.inr (fok_t c5)) h1 _ hS _ (lv_sub hl [3, 4, 1, 5, 0] rfl)
    exact loop25 10 0 0 600 rfl (Nat.zero_le _) (Nat.le_refl _) (by decide) (Or.inl rfl) (fun k q1 q2 => absurd q1 (by omega)) _ hS _ (lv_sub hl [4, 3, 2, 1, 0] rfl)
  refine lv_iconst (v := 0) hx hb dX0_frequency_7 (by decide) ?_
  exact W.iret hx hb hr (fun t ht hW => ⟨⟨0, s.heap, rfl, ⟨rfl, by simp [fq, c1]⟩, ht⟩, hS.F ht⟩) hS.2.2 dX0_frequency_8

set_option maxHeartbeats 600000 in
set_option maxRecDepth 100000 in
theorem c_X0_frequencyDownwards (l : Launch) (D : va_G) (G : Nat → ClassId) (b : Nat → Nat) (R : Nat → Int32) (H : Heap) (hB : BD D G b R H) : Met l yX0_frequencyDownwards wsX0_frequencyDownwards ({ frames := 2, cells := 0, slots := 0, locals := 44 } : Room) (va_Pc [.ref (b 0)] (CX D G H)) (QI nA (fun r h => H = h ∧ fq R = r)) 0 0 (nA) := by
  refine Met.ofW (cc := cX0_frequencyDownwards) (maxL := 3) (ret := (some .int)) (by decide) rfl ?_
  intro p e s m args below meth c s₁ B0 hml hv
  obtain ⟨rfl, rfl, hK, hN⟩ := hv
  have hx := B0.exec
  have hb := B0.bytes
  have hr := B0.returns
  have hts := atoms_spec (ws := wsX0_frequencyDownwards) B0.pre
  have hown : s.vm.findClass RX0 = some m.cls := findClass_of_methodNamed B0.named
  have hlocks := B0.notSynchronized
  have hF : CallFix p m c cX0_frequencyDownwards 3 s ([.ref (b 0)] : List Value).toArray wsX0_frequencyDownwards RX0 := ⟨hx, hb, hml, hown, hts⟩
  have hS : va_S (nA) s.heap s.heap [] := va_S.rf
  have hl := lv_entry ([.ref (b 0)]) (n := 3) (Nat.le_of_ble_eq_true rfl)
  rw [lg_entry_eq]
  generalize (lg_sl ([.ref (b 0)]) ++ List.replicate (3 - (lg_sl ([.ref (b 0)])).length) Slot.unset).toArray = ls at hl ⊢
  have hl : lv_has ls 3 [(0, .ref (b 0))] := hl
  refine lv_aload_n hx hb dX0_frequencyDownwards_0 rfl (lv_at hl 0 rfl) ?_
  refine dp_Vi hF hK hN (c_X0_alive l D G b R _ hB) (cwV 0 hts gX0_frequencyDownwards_X0_alive rfl rfl rfl (by decide +kernel) ⟨Nat.le_of_ble_eq_true rfl, Nat.le_of_ble_eq_true rfl⟩) (dp_recv hK hB.1 rfl) hS nA_i [] rfl rfl hl.1 (Nat.le_of_ble_eq_true rfl) dX0_frequencyDownwards_1 ⟨Nat.le_of_ble_eq_true rfl, Nat.le_of_ble_eq_true rfl⟩ (fun rH1 H1 locs hp hzH1 hkH1 hS => ?_)
  obtain ⟨rfl, rfl⟩ := hp
  refine lv_if_ne (tgt := 9) hx hb dX0_frequencyDownwards_4 (by decide) (fun c1 => ?_) (fun c1 => ?_)
  · refine lv_aload_n hx hb dX0_frequencyDownwards_9 rfl (lv_at hl 0 rfl) ?_
    refine dp_Vi hF hK hN (c_X0_demand l D G b R _ hB) (cwV 0 hts gX0_frequencyDownwards_X0_demand rfl rfl rfl (by decide +kernel) ⟨Nat.le_of_ble_eq_true rfl, Nat.le_of_ble_eq_true rfl⟩) (dp_recv hK hB.1 rfl) hS nA_i [] rfl rfl hl.1 (Nat.le_of_ble_eq_true rfl) dX0_frequencyDownwards_10 ⟨Nat.le_of_ble_eq_true rfl, Nat.le_of_ble_eq_true rfl⟩ (fun rH2 H2 locs hp hzH2 hkH2 hS => ?_)
    obtain ⟨rfl, rfl⟩ := hp
    refine lv_istore_n (lv' := [(1, .int (ld R)), (0, .ref (b 0))]) hx hb dX0_frequencyDownwards_13 rfl hl (by decide) rfl (fun ls hl => ?_)
    refine lv_sipush (v := 5300) hx hb dX0_frequencyDownwards_14 (by decide) ?_
    refine lv_istore_n (lv' := [(2, .int 5300), (1, .int (ld R)), (0, .ref (b 0))]) hx hb dX0_frequencyDownwards_17 rfl hl (by decide) rfl (fun ls hl => ?_)
    have loop18 : ∀ (n : Nat) (k : Nat) (_ : k = n) (_ : fsb (fok R) 600 = fsb (fok R) k) (_ : k ≤ 600) (locs : List Loc) (_ : va_S (nA) s.heap s.heap locs) (ls : Array Slot) (_ : lv_has ls 3 [(0, .ref (b 0)), (1, .int (ld R)), (2, .int (nI (4700 + k)))]), W p l e (headSpec wsX0_frequencyDownwards ({ frames := 2, cells := 0, slots := 0, locals := 44 } : Room)).room s m ([.ref (b 0)] : List Value).toArray below meth c s.heap locs 0 0 (MQ below (QI nA (fun r h => s.heap = h ∧ fq R = r)) ([.ref (b 0)] : List Value).toArray s 0 0 (nA)) (F0 m 18 ls []) := by
      intro n
      induction n with
      | zero =>
        intro k hk hfs hkb locs hS ls hl
        have hk0 : k = 0 := hk
        refine lv_iload_n hx hb dX0_frequencyDownwards_18 rfl (lv_at hl 2 rfl) ?_
        refine lv_sipush (v := 4700) hx hb dX0_frequencyDownwards_19 (by decide) ?_
        refine lv_icmp_le (tgt := 42) hx hb dX0_frequencyDownwards_22 (by decide) (fun c2 => ?_) (fun c2 => absurd (nI_le (a := 4700 + k) (b := 4700) (by omega) (by omega)) c2)
        refine lv_sipush (v := 4700) hx hb dX0_frequencyDownwards_42 (by decide) ?_
        exact W.iret hx hb hr (fun t ht hW => ⟨⟨4700, s.heap, rfl, ⟨rfl, (fq_of c1 (k := 0) (hfs.trans (by rw [hk0]; rfl))).symm⟩, ht⟩, hS.F ht⟩) hS.2.2 dX0_frequencyDownwards_45
      | succ n ih18 =>
        intro k hk hfs hkb locs hS ls hl
        have hk6 : k ≤ 600 := hkb
        refine lv_iload_n hx hb dX0_frequencyDownwards_18 rfl (lv_at hl 2 rfl) ?_
        refine lv_sipush (v := 4700) hx hb dX0_frequencyDownwards_19 (by decide) ?_
        refine lv_icmp_le (tgt := 42) hx hb dX0_frequencyDownwards_22 (by decide) (fun c3 => absurd c3 (nI_ge (a := 4700) (b := 4700 + k) (by omega) (by omega))) (fun c3 => ?_)
        refine lv_aload_n hx hb dX0_frequencyDownwards_25 rfl (lv_at hl 0 rfl) ?_
        refine lv_iload_n hx hb dX0_frequencyDownwards_26 rfl (lv_at hl 2 rfl) ?_
        refine dp_Vi hF hK hN (c_X0_total l D G b R (nI (4700 + k)) _ hB) (cwV 1 hts gX0_frequencyDownwards_X0_total rfl rfl rfl (by decide +kernel) ⟨Nat.le_of_ble_eq_true rfl, Nat.le_of_ble_eq_true rfl⟩) (dp_recv hK hB.1 rfl) hS nA_i [] rfl rfl hl.1 (Nat.le_of_ble_eq_true rfl) dX0_frequencyDownwards_27 ⟨Nat.le_of_ble_eq_true rfl, Nat.le_of_ble_eq_true rfl⟩ (fun rH3 H3 locs hp hzH3 hkH3 hS => ?_)
        obtain ⟨rfl, rfl⟩ := hp
        refine lv_iload_n hx hb dX0_frequencyDownwards_30 rfl (lv_at hl 1 rfl) ?_
        refine lv_icmp_lt (tgt := 36) hx hb dX0_frequencyDownwards_31 (by decide) (fun c4 => ?_) (fun c4 => ?_)
        · refine lv_iinc (v := nI (4700 + (k - 1))) (lv' := [(2, .int (nI (4700 + (k - 1)))), (0, .ref (b 0)), (1, .int (ld R))]) hx hb dX0_frequencyDownwards_36 hl (k := 2) rfl (fd_dec (k := k) (by omega)) (by decide) rfl (fun ls hl => ?_)
          refine lv_goto (tgt := 18) hx hb dX0_frequencyDownwards_39 (by decide) ?_
          exact ih18 (k - 1) (by omega) (hfs.trans (fsb_dn (by omega) (fok_f c4))) (by omega) _ hS _ (lv_sub hl [1, 2, 0] rfl)
        refine lv_iload_n hx hb dX0_frequencyDownwards_34 rfl (lv_at hl 2 rfl) ?_
        exact W.iret hx hb hr (fun t ht hW => ⟨⟨nI (4700 + k), s.heap, rfl, ⟨rfl, (fq_of c1 (hfs.trans (fsb_at (by omega) (fok_t c4)))).symm⟩, ht⟩, hS.F ht⟩) hS.2.2 dX0_frequencyDownwards_35
    exact loop18 600 600 rfl rfl (Nat.le_refl _) _ hS _ (lv_sub hl [2, 1, 0] rfl)
  refine lv_iconst (v := 0) hx hb dX0_frequencyDownwards_7 (by decide) ?_
  exact W.iret hx hb hr (fun t ht hW => ⟨⟨0, s.heap, rfl, ⟨rfl, by simp [fq, c1]⟩, ht⟩, hS.F ht⟩) hS.2.2 dX0_frequencyDownwards_8

set_option maxHeartbeats 600000 in
set_option maxRecDepth 100000 in
theorem c_X0_power (l : Launch) (D : va_G) (G : Nat → ClassId) (b : Nat → Nat) (R : Nat → Int32) (i : Nat) (f : Int32) (H : Heap) (hB : BD D G b R H) (hi : i < 3) : Met l yX0_power wsX0_power ({ frames := 2, cells := 0, slots := 0, locals := 44 } : Room) (va_Pc [.ref (b 0), .int (nI i), .int f] (CX D G H)) (QI nA (fun r h => H = h ∧ pw R i f = r)) 0 0 (nA) := by
  refine Met.ofW (cc := cX0_power) (maxL := 4) (ret := (some .int)) (by decide) rfl ?_
  intro p e s m args below meth c s₁ B0 hml hv
  obtain ⟨rfl, rfl, hK, hN⟩ := hv
  have hx := B0.exec
  have hb := B0.bytes
  have hr := B0.returns
  have hts := atoms_spec (ws := wsX0_power) B0.pre
  have hown : s.vm.findClass RX0 = some m.cls := findClass_of_methodNamed B0.named
  have hlocks := B0.notSynchronized
  have hF : CallFix p m c cX0_power 4 s ([.ref (b 0), .int (nI i), .int f] : List Value).toArray wsX0_power RX0 := ⟨hx, hb, hml, hown, hts⟩
  have hS : va_S (nA) s.heap s.heap [] := va_S.rf
  have hl := lv_entry ([.ref (b 0), .int (nI i), .int f]) (n := 4) (Nat.le_of_ble_eq_true rfl)
  rw [lg_entry_eq]
  generalize (lg_sl ([.ref (b 0), .int (nI i), .int f]) ++ List.replicate (4 - (lg_sl ([.ref (b 0), .int (nI i), .int f])).length) Slot.unset).toArray = ls at hl ⊢
  have hl : lv_has ls 4 [(0, .ref (b 0)), (1, .int (nI i)), (2, .int f)] := hl
  refine lv_aload_n hx hb dX0_power_0 rfl (lv_at hl 0 rfl) ?_
  refine dp_get hx hb hts (dp_hin 36 rfl) hown hK hB.1 rfl 0 (by decide) (hts (.fieldLink RX0 11 "DroopBoard$Board" "diesels" "[LDroopBoard$Diesel;") (List.mem_of_getElem? (i := 1) rfl)) rfl dX0_power_1 ?_
  refine lv_iload_n hx hb dX0_power_4 rfl (lv_at hl 1 rfl) ?_
  refine dp_aald hx hb hK hB.2.1 1 rfl i rfl hi (by decide) rfl dX0_power_5 ?_
  refine lv_iload_n hx hb dX0_power_6 rfl (lv_at hl 2 rfl) ?_
  refine dp_Vi hF hK hN (c_X1_gives l D G (b (4 + i)) i R f _ (hB.2.2.2.2.1 i hi)) (cwV 1 hts gX0_power_X1_gives rfl rfl rfl (by decide +kernel) ⟨Nat.le_of_ble_eq_true rfl, Nat.le_of_ble_eq_true rfl⟩) (dp_recv hK (hB.2.2.2.2.1 i hi) rfl) hS nA_i [] rfl rfl hl.1 (Nat.le_of_ble_eq_true rfl) dX0_power_7 ⟨Nat.le_of_ble_eq_true rfl, Nat.le_of_ble_eq_true rfl⟩ (fun rH1 H1 locs hp hzH1 hkH1 hS => ?_)
  obtain ⟨rfl, rfl⟩ := hp
  refine lv_istore_n (lv' := [(3, .int (gv R i f)), (0, .ref (b 0)), (1, .int (nI i)), (2, .int f)]) hx hb dX0_power_10 rfl hl (by decide) rfl (fun ls hl => ?_)
  refine lv_iload_n hx hb dX0_power_11 rfl (lv_at hl 2 rfl) ?_
  refine lv_aload_n hx hb dX0_power_12 rfl (lv_at hl 1 rfl) ?_
  refine dp_Vi hF hK hN (c_X0_lowestClosed l D G b R _ hB) (cwV 0 hts gX0_power_X0_lowestClosed rfl rfl rfl (by decide +kernel) ⟨Nat.le_of_ble_eq_true rfl, Nat.le_of_ble_eq_true rfl⟩) (dp_recv hK hB.1 rfl) hS nA_i [.int (nI i)] rfl rfl hl.1 (Nat.le_of_ble_eq_true rfl) dX0_power_13 ⟨Nat.le_of_ble_eq_true rfl, Nat.le_of_ble_eq_true rfl⟩ (fun rH2 H2 locs hp hzH2 hkH2 hS => ?_)
  obtain ⟨rfl, rfl⟩ := hp
  refine lv_icmp_eq (tgt := 21) hx hb dX0_power_16 (by decide) (fun c1 => ?_) (fun c1 => ?_)
  · refine lv_iload_n hx hb dX0_power_21 rfl (lv_at hl 0 rfl) ?_
    refine lv_aload_n hx hb dX0_power_22 rfl (lv_at hl 1 rfl) ?_
    refine lv_iload_n hx hb dX0_power_23 rfl (lv_at hl 3 rfl) ?_
    refine dp_Vi hF hK hN (c_X0_total l D G b R f _ hB) (cwV 1 hts gX0_power_X0_total rfl rfl rfl (by decide +kernel) ⟨Nat.le_of_ble_eq_true rfl, Nat.le_of_ble_eq_true rfl⟩) (dp_recv hK hB.1 rfl) hS nA_i [.int (gv R i f)] rfl rfl hl.1 (Nat.le_of_ble_eq_true rfl) dX0_power_24 ⟨Nat.le_of_ble_eq_true rfl, Nat.le_of_ble_eq_true rfl⟩ (fun rH3 H3 locs hp hzH3 hkH3 hS => ?_)
    obtain ⟨rfl, rfl⟩ := hp
    refine lv_aload_n hx hb dX0_power_27 rfl (lv_at hl 1 rfl) ?_
    refine dp_Vi hF hK hN (c_X0_demand l D G b R _ hB) (cwV 0 hts gX0_power_X0_demand rfl rfl rfl (by decide +kernel) ⟨Nat.le_of_ble_eq_true rfl, Nat.le_of_ble_eq_true rfl⟩) (dp_recv hK hB.1 rfl) hS nA_i [.int (tot R f), .int (gv R i f)] rfl rfl hl.1 (Nat.le_of_ble_eq_true rfl) dX0_power_28 ⟨Nat.le_of_ble_eq_true rfl, Nat.le_of_ble_eq_true rfl⟩ (fun rH4 H4 locs hp hzH4 hkH4 hS => ?_)
    obtain ⟨rfl, rfl⟩ := hp
    refine lv_isub hx hb dX0_power_31 ?_
    refine lv_iconst (v := 0) hx hb dX0_power_32 (by decide) ?_
    refine dp_max (rest := [.int (gv R i f)]) hx hb (hml.trans hl.1.symm) hown (hts (.methodLink RX0 73 Lib.Math.max.name) (List.mem_of_getElem? (i := 2) rfl)) (hts (.static Lib.Math.max.name) (List.mem_of_getElem? (i := 3) rfl)) (hts (.initialized "java/lang/Math") (List.mem_of_getElem? (i := 4) rfl)) (hts (.code Lib.Math.max.name Lib.Math.max.code 2 (some .int)) (List.mem_of_getElem? (i := 5) rfl)) (Nat.le_of_ble_eq_true rfl) (Nat.le_of_ble_eq_true rfl) (Nat.le_of_ble_eq_true rfl) (Nat.le_of_ble_eq_true rfl) dX0_power_33 ?_
    refine lv_isub hx hb dX0_power_36 ?_
    exact W.iret hx hb hr (fun t ht hW => ⟨⟨(gv R i f) - (mx ((tot R f) - (ld R)) 0), s.heap, rfl, ⟨rfl, by simp [pw, c1]⟩, ht⟩, hS.F ht⟩) hS.2.2 dX0_power_37
  refine lv_iload_n hx hb dX0_power_19 rfl (lv_at hl 0 rfl) ?_
  exact W.iret hx hb hr (fun t ht hW => ⟨⟨gv R i f, s.heap, rfl, ⟨rfl, by simp [pw, c1]⟩, ht⟩, hS.F ht⟩) hS.2.2 dX0_power_20

set_option maxHeartbeats 600000 in
set_option maxRecDepth 100000 in
theorem c_X0_powers (l : Launch) (D : va_G) (G : Nat → ClassId) (b : Nat → Nat) (R : Nat → Int32) (f : Int32) (H : Heap) (hB : BD D G b R H) : Met l yX0_powers wsX0_powers ({ frames := 3, cells := 0, slots := 0, locals := 67 } : Room) (va_Pc [.ref (b 0), .int f] (CX D G H)) (QI nA (fun r h => H = h ∧ psum R f 3 = r)) 0 0 (nA) := by
  refine Met.ofW (cc := cX0_powers) (maxL := 4) (ret := (some .int)) (by decide) rfl ?_
  intro p e s m args below meth c s₁ B0 hml hv
  obtain ⟨rfl, rfl, hK, hN⟩ := hv
  have hx := B0.exec
  have hb := B0.bytes
  have hr := B0.returns
  have hts := atoms_spec (ws := wsX0_powers) B0.pre
  have hown : s.vm.findClass RX0 = some m.cls := findClass_of_methodNamed B0.named
  have hlocks := B0.notSynchronized
  have hF : CallFix p m c cX0_powers 4 s ([.ref (b 0), .int f] : List Value).toArray wsX0_powers RX0 := ⟨hx, hb, hml, hown, hts⟩
  have hS : va_S (nA) s.heap s.heap [] := va_S.rf
  have hl := lv_entry ([.ref (b 0), .int f]) (n := 4) (Nat.le_of_ble_eq_true rfl)
  rw [lg_entry_eq]
  generalize (lg_sl ([.ref (b 0), .int f]) ++ List.replicate (4 - (lg_sl ([.ref (b 0), .int f])).length) Slot.unset).toArray = ls at hl ⊢
  have hl : lv_has ls 4 [(0, .ref (b 0)), (1, .int f)] := hl
  refine lv_iconst (v := 0) hx hb dX0_powers_0 (by decide) ?_
  refine lv_istore_n (lv' := [(2, .int 0), (0, .ref (b 0)), (1, .int f)]) hx hb dX0_powers_1 rfl hl (by decide) rfl (fun ls hl => ?_)
  refine lv_iconst (v := 0) hx hb dX0_powers_2 (by decide) ?_
  refine lv_istore_n (lv' := [(3, .int 0), (2, .int 0), (0, .ref (b 0)), (1, .int f)]) hx hb dX0_powers_3 rfl hl (by decide) rfl (fun ls hl => ?_)
  have loop4 : ∀ (n : Nat) (i : Nat) (acc : Int32) (_ : i + n = 3) (_ : acc = psum R f i) (locs : List Loc) (_ : va_S (nA) s.heap s.heap locs) (ls : Array Slot) (_ : lv_has ls 4 [(0, .ref (b 0)), (1, .int f), (2, .int acc), (3, .int (nI i))]), W p l e (headSpec wsX0_powers ({ frames := 3, cells := 0, slots := 0, locals := 67 } : Room)).room s m ([.ref (b 0), .int f] : List Value).toArray below meth c s.heap locs 0 0 (MQ below (QI nA (fun r h => s.heap = h ∧ psum R f 3 = r)) ([.ref (b 0), .int f] : List Value).toArray s 0 0 (nA)) (F0 m 4 ls []) := by
    intro n
    induction n with
    | zero =>
      intro i acc hin hacc locs hS ls hl
      have hi9 : i = 3 := by omega
      rw [hi9] at hacc
      refine lv_iload_n hx hb dX0_powers_4 rfl (lv_at hl 3 rfl) ?_
      refine lv_aload_n hx hb dX0_powers_5 rfl (lv_at hl 0 rfl) ?_
      refine dp_get hx hb hts (dp_hin 40 rfl) hown hK hB.1 rfl 0 (by decide) (hts (.fieldLink RX0 11 "DroopBoard$Board" "diesels" "[LDroopBoard$Diesel;") (List.mem_of_getElem? (i := 1) rfl)) rfl dX0_powers_6 ?_
      refine dp_alen hx hb hK hB.2.1 1 rfl dX0_powers_9 ?_
      refine lv_icmp_ge (tgt := 28) hx hb dX0_powers_10 (by decide) (fun c1 => ?_) (fun c1 => absurd (nI_le (a := 3) (b := i) (by omega) (by omega)) c1)
      refine lv_iload_n hx hb dX0_powers_28 rfl (lv_at hl 2 rfl) ?_
      exact W.iret hx hb hr (fun t ht hW => ⟨⟨acc, s.heap, rfl, ⟨rfl, hacc.symm⟩, ht⟩, hS.F ht⟩) hS.2.2 dX0_powers_29
    | succ n ih4 =>
      intro i acc hin hacc locs hS ls hl
      refine lv_iload_n hx hb dX0_powers_4 rfl (lv_at hl 3 rfl) ?_
      refine lv_aload_n hx hb dX0_powers_5 rfl (lv_at hl 0 rfl) ?_
      refine dp_get hx hb hts (dp_hin 40 rfl) hown hK hB.1 rfl 0 (by decide) (hts (.fieldLink RX0 11 "DroopBoard$Board" "diesels" "[LDroopBoard$Diesel;") (List.mem_of_getElem? (i := 1) rfl)) rfl dX0_powers_6 ?_
      refine dp_alen hx hb hK hB.2.1 1 rfl dX0_powers_9 ?_
      refine lv_icmp_ge (tgt := 28) hx hb dX0_powers_10 (by decide) (fun c2 => absurd c2 (nI_ge (a := i) (b := 3) (by omega) (by omega))) (fun c2 => ?_)
      refine lv_iload_n hx hb dX0_powers_13 rfl (lv_at hl 2 rfl) ?_
      refine lv_aload_n hx hb dX0_powers_14 rfl (lv_at hl 0 rfl) ?_
      refine lv_iload_n hx hb dX0_powers_15 rfl (lv_at hl 3 rfl) ?_
      refine lv_iload_n hx hb dX0_powers_16 rfl (lv_at hl 1 rfl) ?_
      refine dp_Vi hF hK hN (c_X0_power l D G b R i f _ hB (by omega)) (cwV 2 hts gX0_powers_X0_power rfl rfl rfl (by decide +kernel) ⟨Nat.le_of_ble_eq_true rfl, Nat.le_of_ble_eq_true rfl⟩) (dp_recv hK hB.1 rfl) hS nA_i [.int acc] rfl rfl hl.1 (Nat.le_of_ble_eq_true rfl) dX0_powers_17 ⟨Nat.le_of_ble_eq_true rfl, Nat.le_of_ble_eq_true rfl⟩ (fun rH1 H1 locs hp hzH1 hkH1 hS => ?_)
      obtain ⟨rfl, rfl⟩ := hp
      refine lv_iadd hx hb dX0_powers_20 ?_
      refine lv_istore_n (lv' := [(2, .int (acc + (pw R i f))), (0, .ref (b 0)), (1, .int f), (3, .int (nI i))]) hx hb dX0_powers_21 rfl hl (by decide) rfl (fun ls hl => ?_)
      refine lv_iinc (v := nI (i + 1)) (lv' := [(3, .int (nI (i + 1))), (2, .int (acc + (pw R i f))), (0, .ref (b 0)), (1, .int f)]) hx hb dX0_powers_22 hl (k := 3) rfl (nI_1 i) (by decide) rfl (fun ls hl => ?_)
      refine lv_goto (tgt := 4) hx hb dX0_powers_25 (by decide) ?_
      exact ih4 (i + 1) (acc + (pw R i f)) (by omega) (by simp [psum, hacc]) _ hS _ (lv_sub hl [2, 3, 1, 0] rfl)
  exact loop4 3 0 0 rfl rfl _ hS _ (lv_sub hl [2, 3, 1, 0] rfl)

set_option maxHeartbeats 600000 in
set_option maxRecDepth 100000 in
theorem c_X0_lack (l : Launch) (D : va_G) (G : Nat → ClassId) (b : Nat → Nat) (R : Nat → Int32) (f : Int32) (H : Heap) (hB : BD D G b R H) : Met l yX0_lack wsX0_lack ({ frames := 2, cells := 0, slots := 0, locals := 44 } : Room) (va_Pc [.ref (b 0), .int f] (CX D G H)) (QI nA (fun r h => H = h ∧ lk R f = r)) 0 0 (nA) := by
  refine Met.ofW (cc := cX0_lack) (maxL := 2) (ret := (some .int)) (by decide) rfl ?_
  intro p e s m args below meth c s₁ B0 hml hv
  obtain ⟨rfl, rfl, hK, hN⟩ := hv
  have hx := B0.exec
  have hb := B0.bytes
  have hr := B0.returns
  have hts := atoms_spec (ws := wsX0_lack) B0.pre
  have hown : s.vm.findClass RX0 = some m.cls := findClass_of_methodNamed B0.named
  have hlocks := B0.notSynchronized
  have hF : CallFix p m c cX0_lack 2 s ([.ref (b 0), .int f] : List Value).toArray wsX0_lack RX0 := ⟨hx, hb, hml, hown, hts⟩
  have hS : va_S (nA) s.heap s.heap [] := va_S.rf
  have hl := lv_entry ([.ref (b 0), .int f]) (n := 2) (Nat.le_of_ble_eq_true rfl)
  rw [lg_entry_eq]
  generalize (lg_sl ([.ref (b 0), .int f]) ++ List.replicate (2 - (lg_sl ([.ref (b 0), .int f])).length) Slot.unset).toArray = ls at hl ⊢
  have hl : lv_has ls 2 [(0, .ref (b 0)), (1, .int f)] := hl
  refine lv_aload_n hx hb dX0_lack_0 rfl (lv_at hl 0 rfl) ?_
  refine dp_Vi hF hK hN (c_X0_demand l D G b R _ hB) (cwV 0 hts gX0_lack_X0_demand rfl rfl rfl (by decide +kernel) ⟨Nat.le_of_ble_eq_true rfl, Nat.le_of_ble_eq_true rfl⟩) (dp_recv hK hB.1 rfl) hS nA_i [] rfl rfl hl.1 (Nat.le_of_ble_eq_true rfl) dX0_lack_1 ⟨Nat.le_of_ble_eq_true rfl, Nat.le_of_ble_eq_true rfl⟩ (fun rH1 H1 locs hp hzH1 hkH1 hS => ?_)
  obtain ⟨rfl, rfl⟩ := hp
  refine lv_aload_n hx hb dX0_lack_4 rfl (lv_at hl 0 rfl) ?_
  refine lv_iload_n hx hb dX0_lack_5 rfl (lv_at hl 1 rfl) ?_
  refine dp_Vi hF hK hN (c_X0_total l D G b R f _ hB) (cwV 1 hts gX0_lack_X0_total rfl rfl rfl (by decide +kernel) ⟨Nat.le_of_ble_eq_true rfl, Nat.le_of_ble_eq_true rfl⟩) (dp_recv hK hB.1 rfl) hS nA_i [.int (ld R)] rfl rfl hl.1 (Nat.le_of_ble_eq_true rfl) dX0_lack_6 ⟨Nat.le_of_ble_eq_true rfl, Nat.le_of_ble_eq_true rfl⟩ (fun rH2 H2 locs hp hzH2 hkH2 hS => ?_)
  obtain ⟨rfl, rfl⟩ := hp
  refine lv_isub hx hb dX0_lack_9 ?_
  refine lv_iconst (v := 0) hx hb dX0_lack_10 (by decide) ?_
  refine dp_max (rest := []) hx hb (hml.trans hl.1.symm) hown (hts (.methodLink RX0 73 Lib.Math.max.name) (List.mem_of_getElem? (i := 1) rfl)) (hts (.static Lib.Math.max.name) (List.mem_of_getElem? (i := 2) rfl)) (hts (.initialized "java/lang/Math") (List.mem_of_getElem? (i := 3) rfl)) (hts (.code Lib.Math.max.name Lib.Math.max.code 2 (some .int)) (List.mem_of_getElem? (i := 4) rfl)) (Nat.le_of_ble_eq_true rfl) (Nat.le_of_ble_eq_true rfl) (Nat.le_of_ble_eq_true rfl) (Nat.le_of_ble_eq_true rfl) dX0_lack_11 ?_
  exact W.iret hx hb hr (fun t ht hW => ⟨⟨mx ((ld R) - (tot R f)) 0, s.heap, rfl, ⟨rfl, rfl⟩, ht⟩, hS.F ht⟩) hS.2.2 dX0_lack_14

set_option maxHeartbeats 600000 in
set_option maxRecDepth 100000 in
theorem c_X0_whyNotClosed (l : Launch) (D : va_G) (G : Nat → ClassId) (b : Nat → Nat) (R : Nat → Int32) (i : Nat) (H : Heap) (hB : BD D G b R H) (hi : i < 3) (hm : ∀ j k, j ≤ k → k ≤ 600 → fok R k = true → fok R j = true) : Met l yX0_whyNotClosed wsX0_whyNotClosed ({ frames := 3, cells := 0, slots := 0, locals := 69 } : Room) (va_Pc [.ref (b 0), .int (nI i)] (CX D G H)) (QI nA (fun r h => H = h ∧ rsn R i = r)) 0 0 (nA) := by
  refine Met.ofW (cc := cX0_whyNotClosed) (maxL := 3) (ret := (some .int)) (by decide) rfl ?_
  intro p e s m args below meth c s₁ B0 hml hv
  obtain ⟨rfl, rfl, hK, hN⟩ := hv
  have hx := B0.exec
  have hb := B0.bytes
  have hr := B0.returns
  have hts := atoms_spec (ws := wsX0_whyNotClosed) B0.pre
  have hown : s.vm.findClass RX0 = some m.cls := findClass_of_methodNamed B0.named
  have hlocks := B0.notSynchronized
  have hF : CallFix p m c cX0_whyNotClosed 3 s ([.ref (b 0), .int (nI i)] : List Value).toArray wsX0_whyNotClosed RX0 := ⟨hx, hb, hml, hown, hts⟩
  have hS : va_S (nA) s.heap s.heap [] := va_S.rf
  have hl := lv_entry ([.ref (b 0), .int (nI i)]) (n := 3) (Nat.le_of_ble_eq_true rfl)
  rw [lg_entry_eq]
  generalize (lg_sl ([.ref (b 0), .int (nI i)]) ++ List.replicate (3 - (lg_sl ([.ref (b 0), .int (nI i)])).length) Slot.unset).toArray = ls at hl ⊢
  have hl : lv_has ls 3 [(0, .ref (b 0)), (1, .int (nI i))] := hl
  refine lv_aload_n hx hb dX0_whyNotClosed_0 rfl (lv_at hl 0 rfl) ?_
  refine dp_get hx hb hts (dp_hin 47 rfl) hown hK hB.1 rfl 0 (by decide) (hts (.fieldLink RX0 11 "DroopBoard$Board" "diesels" "[LDroopBoard$Diesel;") (List.mem_of_getElem? (i := 1) rfl)) rfl dX0_whyNotClosed_1 ?_
  refine lv_iload_n hx hb dX0_whyNotClosed_4 rfl (lv_at hl 1 rfl) ?_
  refine dp_aald hx hb hK hB.2.1 1 rfl i rfl hi (by decide) rfl dX0_whyNotClosed_5 ?_
  refine lv_astore_n (lv' := [(2, .ref (b (4 + i))), (0, .ref (b 0)), (1, .int (nI i))]) hx hb dX0_whyNotClosed_6 rfl hl (by decide) rfl (fun ls hl => ?_)
  refine lv_aload_n hx hb dX0_whyNotClosed_7 rfl (lv_at hl 0 rfl) ?_
  refine dp_get hx hb hts (dp_hin 52 rfl) hown hK (hB.2.2.2.2.1 i hi) rfl 3 (by decide) (hts (.fieldLink RX0 82 "DroopBoard$Diesel" "runs" "Z") (List.mem_of_getElem? (i := 2) rfl)) rfl dX0_whyNotClosed_8 ?_
  refine lv_if_ne (tgt := 16) hx hb dX0_whyNotClosed_11 (by decide) (fun c1 => ?_) (fun c1 => ?_)
  · refine lv_aload_n hx hb dX0_whyNotClosed_16 rfl (lv_at hl 0 rfl) ?_
    refine dp_get hx hb hts (dp_hin 52 rfl) hown hK (hB.2.2.2.2.1 i hi) rfl 4 (by decide) (hts (.fieldLink RX0 45 "DroopBoard$Diesel" "closed" "Z") (List.mem_of_getElem? (i := 3) rfl)) rfl dX0_whyNotClosed_17 ?_
    refine lv_if_eq (tgt := 25) hx hb dX0_whyNotClosed_20 (by decide) (fun c2 => ?_) (fun c2 => ?_)
    · refine lv_aload_n hx hb dX0_whyNotClosed_25 rfl (lv_at hl 1 rfl) ?_
      refine dp_Vi hF hK hN (c_X0_alive l D G b R _ hB) (cwV 0 hts gX0_whyNotClosed_X0_alive rfl rfl rfl (by decide +kernel) ⟨Nat.le_of_ble_eq_true rfl, Nat.le_of_ble_eq_true rfl⟩) (dp_recv hK hB.1 rfl) hS nA_i [] rfl rfl hl.1 (Nat.le_of_ble_eq_true rfl) dX0_whyNotClosed_26 ⟨Nat.le_of_ble_eq_true rfl, Nat.le_of_ble_eq_true rfl⟩ (fun rH1 H1 locs hp hzH1 hkH1 hS => ?_)
      obtain ⟨rfl, rfl⟩ := hp
      refine lv_if_ne (tgt := 34) hx hb dX0_whyNotClosed_29 (by decide) (fun c3 => ?_) (fun c3 => ?_)
      · refine lv_aload_n hx hb dX0_whyNotClosed_34 rfl (lv_at hl 0 rfl) ?_
        refine dp_get hx hb hts (dp_hin 52 rfl) hown hK (hB.2.2.2.2.1 i hi) rfl 2 (by decide) (hts (.fieldLink RX0 85 "DroopBoard$Diesel" "speed" "I") (List.mem_of_getElem? (i := 4) rfl)) rfl dX0_whyNotClosed_35 ?_
        refine lv_aload_n hx hb dX0_whyNotClosed_38 rfl (lv_at hl 1 rfl) ?_
        refine dp_Vi hF hK hN (c_X0_frequency l D G b R _ hB hm) (cwV 0 hts gX0_whyNotClosed_X0_frequency rfl rfl rfl (by decide +kernel) ⟨Nat.le_of_ble_eq_true rfl, Nat.le_of_ble_eq_true rfl⟩) (dp_recv hK hB.1 rfl) hS nA_i [.int (R (10 + 10 * i))] rfl rfl hl.1 (Nat.le_of_ble_eq_true rfl) dX0_whyNotClosed_39 ⟨Nat.le_of_ble_eq_true rfl, Nat.le_of_ble_eq_true rfl⟩ (fun rH2 H2 locs hp hzH2 hkH2 hS => ?_)
        obtain ⟨rfl, rfl⟩ := hp
        refine lv_isub hx hb dX0_whyNotClosed_42 ?_
        refine dp_abs (rest := []) hx hb (hml.trans hl.1.symm) hown (hts (.methodLink RX0 91 Lib.Math.abs.name) (List.mem_of_getElem? (i := 5) rfl)) (hts (.static Lib.Math.abs.name) (List.mem_of_getElem? (i := 6) rfl)) (hts (.initialized "java/lang/Math") (List.mem_of_getElem? (i := 7) rfl)) (hts (.code Lib.Math.abs.name Lib.Math.abs.code 1 (some .int)) (List.mem_of_getElem? (i := 8) rfl)) (Nat.le_of_ble_eq_true rfl) (Nat.le_of_ble_eq_true rfl) (Nat.le_of_ble_eq_true rfl) (Nat.le_of_ble_eq_true rfl) dX0_whyNotClosed_43 ?_
        refine lv_aload_n hx hb dX0_whyNotClosed_46 rfl (lv_at hl 1 rfl) ?_
        refine dp_get hx hb hts (dp_hin 47 rfl) hown hK hB.1 rfl 2 (by decide) (hts (.fieldLink RX0 23 "DroopBoard$Board" "settings" "[I") (List.mem_of_getElem? (i := 9) rfl)) rfl dX0_whyNotClosed_47 ?_
        refine lv_iconst (v := 2) hx hb dX0_whyNotClosed_50 (by decide) ?_
        refine dp_iald hx hb hK hB.2.2.2.1 0 rfl 2 rfl (by decide) (by decide) dX0_whyNotClosed_51 ?_
        refine lv_icmp_le (tgt := 57) hx hb dX0_whyNotClosed_52 (by decide) (fun c4 => ?_) (fun c4 => ?_)
        · refine lv_aload_n hx hb dX0_whyNotClosed_57 rfl (lv_at hl 0 rfl) ?_
          refine dp_Vi hF hK hN (c_X1_lamps l D G (b (4 + i)) i R _ (hB.2.2.2.2.1 i hi)) (cwV 0 hts gX0_whyNotClosed_X1_lamps rfl rfl rfl (by decide +kernel) ⟨Nat.le_of_ble_eq_true rfl, Nat.le_of_ble_eq_true rfl⟩) (dp_recv hK (hB.2.2.2.2.1 i hi) rfl) hS nA_i [] rfl rfl hl.1 (Nat.le_of_ble_eq_true rfl) dX0_whyNotClosed_58 ⟨Nat.le_of_ble_eq_true rfl, Nat.le_of_ble_eq_true rfl⟩ (fun rH3 H3 locs hp hzH3 hkH3 hS => ?_)
          obtain ⟨rfl, rfl⟩ := hp
          refine lv_aload_n hx hb dX0_whyNotClosed_61 rfl (lv_at hl 1 rfl) ?_
          refine dp_get hx hb hts (dp_hin 47 rfl) hown hK hB.1 rfl 2 (by decide) (hts (.fieldLink RX0 23 "DroopBoard$Board" "settings" "[I") (List.mem_of_getElem? (i := 9) rfl)) rfl dX0_whyNotClosed_62 ?_
          refine lv_iconst (v := 3) hx hb dX0_whyNotClosed_65 (by decide) ?_
          refine dp_iald hx hb hK hB.2.2.2.1 0 rfl 3 rfl (by decide) (by decide) dX0_whyNotClosed_66 ?_
          refine lv_icmp_le (tgt := 74) hx hb dX0_whyNotClosed_67 (by decide) (fun c5 => ?_) (fun c5 => ?_)
          · refine lv_iconst (v := 0) hx hb dX0_whyNotClosed_74 (by decide) ?_
            exact W.iret hx hb hr (fun t ht hW => ⟨⟨0, s.heap, rfl, ⟨rfl, by simp [rsn, c1, c2, c3, c4, c5]⟩, ht⟩, hS.F ht⟩) hS.2.2 dX0_whyNotClosed_75
          refine lv_iconst (v := 4) hx hb dX0_whyNotClosed_70 (by decide) ?_
          refine lv_goto (tgt := 75) hx hb dX0_whyNotClosed_71 (by decide) ?_
          exact W.iret hx hb hr (fun t ht hW => ⟨⟨4, s.heap, rfl, ⟨rfl, by simp [rsn, c1, c2, c3, c4, c5]⟩, ht⟩, hS.F ht⟩) hS.2.2 dX0_whyNotClosed_75
        refine lv_iconst (v := 3) hx hb dX0_whyNotClosed_55 (by decide) ?_
        exact W.iret hx hb hr (fun t ht hW => ⟨⟨3, s.heap, rfl, ⟨rfl, by simp [rsn, c1, c2, c3, c4]⟩, ht⟩, hS.F ht⟩) hS.2.2 dX0_whyNotClosed_56
      refine lv_iconst (v := 0) hx hb dX0_whyNotClosed_32 (by decide) ?_
      exact W.iret hx hb hr (fun t ht hW => ⟨⟨0, s.heap, rfl, ⟨rfl, by simp [rsn, c1, c2, c3]⟩, ht⟩, hS.F ht⟩) hS.2.2 dX0_whyNotClosed_33
    refine lv_iconst (v := 2) hx hb dX0_whyNotClosed_23 (by decide) ?_
    exact W.iret hx hb hr (fun t ht hW => ⟨⟨2, s.heap, rfl, ⟨rfl, by simp [rsn, c1, c2]⟩, ht⟩, hS.F ht⟩) hS.2.2 dX0_whyNotClosed_24
  refine lv_iconst (v := 1) hx hb dX0_whyNotClosed_14 (by decide) ?_
  exact W.iret hx hb hr (fun t ht hW => ⟨⟨1, s.heap, rfl, ⟨rfl, by simp [rsn, c1]⟩, ht⟩, hS.F ht⟩) hS.2.2 dX0_whyNotClosed_15
