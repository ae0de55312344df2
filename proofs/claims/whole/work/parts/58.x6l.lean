set_option maxHeartbeats 600000 in
set_option maxRecDepth 100000 in
theorem c_X6_takes (l : Launch) (D : va_G) (G : Nat → ClassId) (μ : Nat → Nat) (R S N E P B L1 L2 L3 : Nat → Int32) (sm kp th la ln sp od : Int32) (hs : Int64) (pz len : Nat) (x y : Int32) (H : Heap) (hμ : inj 10 μ) (hM : MO D G μ R S N E P B L1 L2 L3 sm kp th la ln sp od hs H) (hsp : sp = nI pz) (hln : ln = nI len) (hpl : pz ≤ len) (hl6 : len ≤ 60) : Met l yX6_takes wsX6_takes ({ frames := 1, cells := 0, slots := 0, locals := 22 } : Room) (va_Pc [.ref (μ 0), .int x, .int y] (CX D G H)) (QI (A6 μ) (fun r h => (1 = r ∧ (pz < len ∧ ¬ B pz < x ∧ ¬ y < B pz) ∧ MO D G μ R S N E P B L1 L2 L3 sm kp th la (nI len) (nI (pz + 1)) od hs h) ∨ (0 = r ∧ (len ≤ pz ∨ B pz < x ∨ y < B pz) ∧ MO D G μ R S N E P B L1 L2 L3 sm kp th la (nI len) (nI pz) od hs h))) 0 0 (A6 μ) := by
  refine Met.ofW (cc := cX6_takes) (maxL := 4) (ret := (some .boolean)) (by decide) rfl ?_
  intro p e s m args below meth c s₁ B0 hml hv
  obtain ⟨rfl, rfl, hK, hN⟩ := hv
  have hx := B0.exec
  have hb := B0.bytes
  have hr := B0.returns
  have hts := atoms_spec (ws := wsX6_takes) B0.pre
  have hown : s.vm.findClass RX6 = some m.cls := findClass_of_methodNamed B0.named
  have hlocks := B0.notSynchronized
  have hF : CallFix p m c cX6_takes 4 s ([.ref (μ 0), .int x, .int y] : List Value).toArray wsX6_takes RX6 := ⟨hx, hb, hml, hown, hts⟩
  have hS : va_S (A6 μ) s.heap s.heap [] := va_S.rf
  have hl := lv_entry ([.ref (μ 0), .int x, .int y]) (n := 4) (Nat.le_of_ble_eq_true rfl)
  rw [lg_entry_eq]
  generalize (lg_sl ([.ref (μ 0), .int x, .int y]) ++ List.replicate (4 - (lg_sl ([.ref (μ 0), .int x, .int y])).length) Slot.unset).toArray = ls at hl ⊢
  have hl : lv_has ls 4 [(0, .ref (μ 0)), (1, .int x), (2, .int y)] := hl
  subst hsp hln
  refine lv_aload_n hx hb dX6_takes_0 rfl (lv_at hl 0 rfl) ?_
  refine dp_get hx hb hts (dp_hin 8 rfl) hown hK hM.1 rfl 11 (by decide) (hts (.fieldLink RX6 156 "DroopBoardModel" "spot" "I") (List.mem_of_getElem? (i := 1) rfl)) rfl dX6_takes_1 ?_
  refine lv_aload_n hx hb dX6_takes_4 rfl (lv_at hl 0 rfl) ?_
  refine dp_get hx hb hts (dp_hin 8 rfl) hown hK hM.1 rfl 10 (by decide) (hts (.fieldLink RX6 153 "DroopBoardModel" "length" "I") (List.mem_of_getElem? (i := 2) rfl)) rfl dX6_takes_5 ?_
  refine lv_icmp_ge (tgt := 32) hx hb dX6_takes_8 (by decide) (fun c1 => ?_) (fun c1 => ?_)
  · refine lv_iconst (v := 0) hx hb dX6_takes_32 (by decide) ?_
    refine lv_istore_n (lv' := [(3, .int 0), (0, .ref (μ 0)), (1, .int x), (2, .int y)]) hx hb dX6_takes_33 rfl hl (by decide) rfl (fun ls hl => ?_)
    refine lv_aload_n hx hb dX6_takes_34 rfl (lv_at hl 1 rfl) ?_
    refine lv_dup hx hb dX6_takes_35 rfl ?_
    refine dp_get hx hb hts (dp_hin 8 rfl) hown hK hM.1 rfl 11 (by decide) (hts (.fieldLink RX6 156 "DroopBoardModel" "spot" "I") (List.mem_of_getElem? (i := 1) rfl)) rfl dX6_takes_36 ?_
    refine lv_iload_n hx hb dX6_takes_39 rfl (lv_at hl 0 rfl) ?_
    refine lv_if_eq (tgt := 47) hx hb dX6_takes_40 (by decide) (fun c2 => ?_) (fun c2 => absurd (by decide) c2)
    refine lv_iconst (v := 0) hx hb dX6_takes_47 (by decide) ?_
    refine lv_iadd hx hb dX6_takes_48 ?_
    rw [show nI pz + 0 = nI pz from Int32.add_zero _]
    refine dp_put (A := A6 μ) (v := .int (nI pz)) hx hb hts (dp_hin 8 rfl) tyX6 tyX6_ok nmX6 hown hK hM.1 (⟨0, by decide, rfl⟩ : A6 μ (μ 0)) hS rfl 11 (by decide) (hts (.fieldLink RX6 156 "DroopBoardModel" "spot" "I") (List.mem_of_getElem? (i := 1) rfl)) rfl rfl rfl (Nat.le_of_ble_eq_true rfl) dX6_takes_49 (fun H1 locs hH1 hzH1 hkH1 hS => ?_)
    have hM := hM.o (sm' := sm) (kp' := kp) (th' := th) (la' := la) (ln' := (nI len)) (sp' := (nI pz)) (od' := od) (hs' := hs) hμ hH1 hkH1
    refine lv_iload_n hx hb dX6_takes_52 rfl (lv_at hl 0 rfl) ?_
    exact W.zret (ty := .boolean) hx hb hr rfl (fun t ht hW => ⟨⟨0, H1, rfl, Or.inr ⟨rfl, Or.inl (ge_sp hl6 hpl c1), hM⟩, ht⟩, hS.F ht⟩) hS.2.2 dX6_takes_53
  have hp1 : pz < len := lt_sp hl6 hpl c1
  refine lv_aload_n hx hb dX6_takes_11 rfl (lv_at hl 0 rfl) ?_
  refine dp_get hx hb hts (dp_hin 8 rfl) hown hK hM.1 rfl 9 (by decide) (hts (.fieldLink RX6 25 "DroopBoardModel" "buffer" "[I") (List.mem_of_getElem? (i := 3) rfl)) rfl dX6_takes_12 ?_
  refine lv_aload_n hx hb dX6_takes_15 rfl (lv_at hl 0 rfl) ?_
  refine dp_get hx hb hts (dp_hin 8 rfl) hown hK hM.1 rfl 11 (by decide) (hts (.fieldLink RX6 156 "DroopBoardModel" "spot" "I") (List.mem_of_getElem? (i := 1) rfl)) rfl dX6_takes_16 ?_
  refine dp_iald hx hb hK hM.2.2.2.2.2.2.1 0 rfl pz rfl (by omega) (by decide) dX6_takes_19 ?_
  refine lv_iload_n hx hb dX6_takes_20 rfl (lv_at hl 1 rfl) ?_
  refine lv_iload_n hx hb dX6_takes_21 rfl (lv_at hl 2 rfl) ?_
  refine dp_Si hF hK hN (c_X6_in l D G (B pz) x y _) (va_cwS 3 hts gX6_takes_X6_in rfl rfl rfl (by decide +kernel) ⟨Nat.le_of_ble_eq_true rfl, Nat.le_of_ble_eq_true rfl⟩) hS nA_i [] rfl rfl hl.1 (Nat.le_of_ble_eq_true rfl) dX6_takes_22 ⟨Nat.le_of_ble_eq_true rfl, Nat.le_of_ble_eq_true rfl⟩ (fun rH2 H2 locs hp hzH2 hkH2 hS => ?_)
  obtain ⟨rfl, rfl⟩ := hp
  refine lv_if_eq (tgt := 32) hx hb dX6_takes_25 (by decide) (fun c3 => ?_) (fun c3 => ?_)
  · refine lv_iconst (v := 0) hx hb dX6_takes_32 (by decide) ?_
    refine lv_istore_n (lv' := [(3, .int 0), (0, .ref (μ 0)), (1, .int x), (2, .int y)]) hx hb dX6_takes_33 rfl hl (by decide) rfl (fun ls hl => ?_)
    refine lv_aload_n hx hb dX6_takes_34 rfl (lv_at hl 1 rfl) ?_
    refine lv_dup hx hb dX6_takes_35 rfl ?_
    refine dp_get hx hb hts (dp_hin 8 rfl) hown hK hM.1 rfl 11 (by decide) (hts (.fieldLink RX6 156 "DroopBoardModel" "spot" "I") (List.mem_of_getElem? (i := 1) rfl)) rfl dX6_takes_36 ?_
    refine lv_iload_n hx hb dX6_takes_39 rfl (lv_at hl 0 rfl) ?_
    refine lv_if_eq (tgt := 47) hx hb dX6_takes_40 (by decide) (fun c4 => ?_) (fun c4 => absurd (by decide) c4)
    refine lv_iconst (v := 0) hx hb dX6_takes_47 (by decide) ?_
    refine lv_iadd hx hb dX6_takes_48 ?_
    rw [show nI pz + 0 = nI pz from Int32.add_zero _]
    refine dp_put (A := A6 μ) (v := .int (nI pz)) hx hb hts (dp_hin 8 rfl) tyX6 tyX6_ok nmX6 hown hK hM.1 (⟨0, by decide, rfl⟩ : A6 μ (μ 0)) hS rfl 11 (by decide) (hts (.fieldLink RX6 156 "DroopBoardModel" "spot" "I") (List.mem_of_getElem? (i := 1) rfl)) rfl rfl rfl (Nat.le_of_ble_eq_true rfl) dX6_takes_49 (fun H3 locs hH3 hzH3 hkH3 hS => ?_)
    have hM := hM.o (sm' := sm) (kp' := kp) (th' := th) (la' := la) (ln' := (nI len)) (sp' := (nI pz)) (od' := od) (hs' := hs) hμ hH3 hkH3
    refine lv_iload_n hx hb dX6_takes_52 rfl (lv_at hl 0 rfl) ?_
    exact W.zret (ty := .boolean) hx hb hr rfl (fun t ht hW => ⟨⟨0, H3, rfl, Or.inr ⟨rfl, Or.inr (sR_nn c3), hM⟩, ht⟩, hS.F ht⟩) hS.2.2 dX6_takes_53
  refine lv_iconst (v := 1) hx hb dX6_takes_28 (by decide) ?_
  refine lv_goto (tgt := 33) hx hb dX6_takes_29 (by decide) ?_
  refine lv_istore_n (lv' := [(3, .int 1), (0, .ref (μ 0)), (1, .int x), (2, .int y)]) hx hb dX6_takes_33 rfl hl (by decide) rfl (fun ls hl => ?_)
  refine lv_aload_n hx hb dX6_takes_34 rfl (lv_at hl 1 rfl) ?_
  refine lv_dup hx hb dX6_takes_35 rfl ?_
  refine dp_get hx hb hts (dp_hin 8 rfl) hown hK hM.1 rfl 11 (by decide) (hts (.fieldLink RX6 156 "DroopBoardModel" "spot" "I") (List.mem_of_getElem? (i := 1) rfl)) rfl dX6_takes_36 ?_
  refine lv_iload_n hx hb dX6_takes_39 rfl (lv_at hl 0 rfl) ?_
  refine lv_if_eq (tgt := 47) hx hb dX6_takes_40 (by decide) (fun c5 => absurd c5 (by decide)) (fun c5 => ?_)
  refine lv_iconst (v := 1) hx hb dX6_takes_43 (by decide) ?_
  refine lv_goto (tgt := 48) hx hb dX6_takes_44 (by decide) ?_
  refine lv_iadd hx hb dX6_takes_48 ?_
  rw [nI_1 pz]
  refine dp_put (A := A6 μ) (v := .int (nI (pz + 1))) hx hb hts (dp_hin 8 rfl) tyX6 tyX6_ok nmX6 hown hK hM.1 (⟨0, by decide, rfl⟩ : A6 μ (μ 0)) hS rfl 11 (by decide) (hts (.fieldLink RX6 156 "DroopBoardModel" "spot" "I") (List.mem_of_getElem? (i := 1) rfl)) rfl rfl rfl (Nat.le_of_ble_eq_true rfl) dX6_takes_49 (fun H4 locs hH4 hzH4 hkH4 hS => ?_)
  have hM := hM.o (sm' := sm) (kp' := kp) (th' := th) (la' := la) (ln' := (nI len)) (sp' := (nI (pz + 1))) (od' := od) (hs' := hs) hμ hH4 hkH4
  refine lv_iload_n hx hb dX6_takes_52 rfl (lv_at hl 0 rfl) ?_
  exact W.zret (ty := .boolean) hx hb hr rfl (fun t ht hW => ⟨⟨1, H4, rfl, Or.inl ⟨rfl, ⟨hp1, sR_ok c3⟩, hM⟩, ht⟩, hS.F ht⟩) hS.2.2 dX6_takes_53

set_option maxHeartbeats 600000 in
set_option maxRecDepth 100000 in
theorem c_X6_digit (l : Launch) (D : va_G) (G : Nat → ClassId) (μ : Nat → Nat) (R S N E P B L1 L2 L3 : Nat → Int32) (sm kp th la ln sp od : Int32) (hs : Int64) (pz q k : Nat) (H : Heap) (hμ : inj 10 μ) (hM : MO D G μ R S N E P B L1 L2 L3 sm kp th la ln sp od hs H) (hsp : sp = nI pz) (hq : q + k = pz) (hp6 : pz ≤ 60) (hk : 1 ≤ k) : Met l yX6_digit wsX6_digit ({ frames := 0, cells := 0, slots := 0, locals := 0 } : Room) (va_Pc [.ref (μ 0), .int (nI k)] (CX D G H)) (QI nA (fun r h => H = h ∧ B q - 48 = r)) 0 0 (nA) := by
  refine Met.ofW (cc := cX6_digit) (maxL := 2) (ret := (some .int)) (by decide) rfl ?_
  intro p e s m args below meth c s₁ B0 hml hv
  obtain ⟨rfl, rfl, hK, hN⟩ := hv
  have hx := B0.exec
  have hb := B0.bytes
  have hr := B0.returns
  have hts := atoms_spec (ws := wsX6_digit) B0.pre
  have hown : s.vm.findClass RX6 = some m.cls := findClass_of_methodNamed B0.named
  have hlocks := B0.notSynchronized
  have hF : CallFix p m c cX6_digit 2 s ([.ref (μ 0), .int (nI k)] : List Value).toArray wsX6_digit RX6 := ⟨hx, hb, hml, hown, hts⟩
  have hS : va_S (nA) s.heap s.heap [] := va_S.rf
  have hl := lv_entry ([.ref (μ 0), .int (nI k)]) (n := 2) (Nat.le_of_ble_eq_true rfl)
  rw [lg_entry_eq]
  generalize (lg_sl ([.ref (μ 0), .int (nI k)]) ++ List.replicate (2 - (lg_sl ([.ref (μ 0), .int (nI k)])).length) Slot.unset).toArray = ls at hl ⊢
  have hl : lv_has ls 2 [(0, .ref (μ 0)), (1, .int (nI k))] := hl
  subst hsp
  refine lv_aload_n hx hb dX6_digit_0 rfl (lv_at hl 0 rfl) ?_
  refine dp_get hx hb hts (dp_hin 3 rfl) hown hK hM.1 rfl 9 (by decide) (hts (.fieldLink RX6 25 "DroopBoardModel" "buffer" "[I") (List.mem_of_getElem? (i := 1) rfl)) rfl dX6_digit_1 ?_
  refine lv_aload_n hx hb dX6_digit_4 rfl (lv_at hl 0 rfl) ?_
  refine dp_get hx hb hts (dp_hin 3 rfl) hown hK hM.1 rfl 11 (by decide) (hts (.fieldLink RX6 156 "DroopBoardModel" "spot" "I") (List.mem_of_getElem? (i := 2) rfl)) rfl dX6_digit_5 ?_
  refine lv_iload_n hx hb dX6_digit_8 rfl (lv_at hl 1 rfl) ?_
  refine lv_isub hx hb dX6_digit_9 ?_
  rw [show nI pz - nI k = nI q by rw [pk_sub (by omega), show pz - k = q by omega]]
  refine dp_iald hx hb hK hM.2.2.2.2.2.2.1 0 rfl q rfl (by omega) (by decide) dX6_digit_10 ?_
  refine lv_bipush (v := 48) hx hb dX6_digit_11 (by decide) ?_
  refine lv_isub hx hb dX6_digit_13 ?_
  exact W.iret hx hb hr (fun t ht hW => ⟨⟨(B q) - 48, s.heap, rfl, ⟨rfl, rfl⟩, ht⟩, hS.F ht⟩) hS.2.2 dX6_digit_14

set_option maxHeartbeats 600000 in
set_option maxRecDepth 100000 in
theorem c_X6_readSpeed (l : Launch) (D : va_G) (G : Nat → ClassId) (μ : Nat → Nat) (R S N E P B L1 L2 L3 : Nat → Int32) (sm kp th la ln sp od : Int32) (hs : Int64) (pz len o : Nat) (H : Heap) (hμ : inj 10 μ) (hM : MO D G μ R S N E P B L1 L2 L3 sm kp th la ln sp od hs H) (hsp : sp = nI pz) (hln : ln = nI len) (hpl : pz ≤ len) (hl6 : len ≤ 60) (hod : od = nI o) (ho : o < 24) (hd0 : dfa B pz = 4) : Met l yX6_readSpeed wsX6_readSpeed ({ frames := 2, cells := 0, slots := 0, locals := 45 } : Room) (va_Pc [.ref (μ 0)] (CX D G H)) (QI (A6 μ) (fun r h => (1 = r ∧ pz + 5 ≤ len ∧ dfa B (pz + 5) = 16 ∧ (∀ k, pz ≤ k → k < pz + 5 → ¬ B k = 59) ∧ ∃ v : Nat, v ≤ 600 ∧ nmb B len (pz + 1) 4 = nI (4700 + v) ∧ MO D G μ R S N E P B L1 L2 (upd L3 o (nI (4700 + v))) sm kp th la (nI len) (nI (pz + 5)) (nI o) hs h) ∨ (0 = r ∧ ∃ p2, bad B len p2 ∧ p2 ≤ len ∧ MO D G μ R S N E P B L1 L2 L3 sm kp th la (nI len) (nI p2) (nI o) hs h))) 0 0 (A6 μ) := by
  refine Met.ofW (cc := cX6_readSpeed) (maxL := 3) (ret := (some .boolean)) (by decide) rfl ?_
  intro p e s m args below meth c s₁ B0 hml hv
  obtain ⟨rfl, rfl, hK, hN⟩ := hv
  have hx := B0.exec
  have hb := B0.bytes
  have hr := B0.returns
  have hts := atoms_spec (ws := wsX6_readSpeed) B0.pre
  have hown : s.vm.findClass RX6 = some m.cls := findClass_of_methodNamed B0.named
  have hlocks := B0.notSynchronized
  have hF : CallFix p m c cX6_readSpeed 3 s ([.ref (μ 0)] : List Value).toArray wsX6_readSpeed RX6 := ⟨hx, hb, hml, hown, hts⟩
  have hS : va_S (A6 μ) s.heap s.heap [] := va_S.rf
  have hl := lv_entry ([.ref (μ 0)]) (n := 3) (Nat.le_of_ble_eq_true rfl)
  rw [lg_entry_eq]
  generalize (lg_sl ([.ref (μ 0)]) ++ List.replicate (3 - (lg_sl ([.ref (μ 0)])).length) Slot.unset).toArray = ls at hl ⊢
  have hl : lv_has ls 3 [(0, .ref (μ 0))] := hl
  subst hsp hln hod
  refine lv_aload_n hx hb dX6_readSpeed_0 rfl (lv_at hl 0 rfl) ?_
  refine lv_bipush (v := 61) hx hb dX6_readSpeed_1 (by decide) ?_
  refine lv_bipush (v := 61) hx hb dX6_readSpeed_3 (by decide) ?_
  refine dp_Vi hF hK hN (c_X6_takes l D G μ R S N E P B L1 L2 L3 sm kp th la (nI len) (nI pz) (nI o) hs pz len 61 61 _ hμ hM rfl rfl hpl hl6) (cwV 2 hts gX6_readSpeed_X6_takes rfl rfl rfl (by decide +kernel) ⟨Nat.le_of_ble_eq_true rfl, Nat.le_of_ble_eq_true rfl⟩) (dp_recv hK hM.1 rfl) hS (fun q hq => hq) [] rfl rfl hl.1 (Nat.le_of_ble_eq_true rfl) dX6_readSpeed_5 ⟨Nat.le_of_ble_eq_true rfl, Nat.le_of_ble_eq_true rfl⟩ (fun rH1 H1 locs hp hzH1 hkH1 hS => ?_)
  rcases hp with ⟨rfl, hq1, hM⟩ | ⟨rfl, hq1, hM⟩
  · have hd1 : dfa B (pz + 1) = 5 := (df_s hd0).trans (by rw [nx4, bt_y hq1.2])
    refine lv_if_eq (tgt := 22) hx hb dX6_readSpeed_8 (by decide) (fun c1 => absurd c1 (by decide)) (fun c1 => ?_)
    refine lv_aload_n hx hb dX6_readSpeed_11 rfl (lv_at hl 0 rfl) ?_
    refine lv_bipush (v := 52) hx hb dX6_readSpeed_12 (by decide) ?_
    refine lv_bipush (v := 53) hx hb dX6_readSpeed_14 (by decide) ?_
    refine dp_Vi hF hK hN (c_X6_takes l D G μ R S N E P B L1 L2 L3 sm kp th la (nI len) (nI (pz + 1)) (nI o) hs (pz + 1) len 52 53 _ hμ hM rfl rfl hq1.1 hl6) (cwV 2 hts gX6_readSpeed_X6_takes rfl rfl rfl (by decide +kernel) ⟨Nat.le_of_ble_eq_true rfl, Nat.le_of_ble_eq_true rfl⟩) (dp_recv hK hM.1 rfl) hS (fun q hq => hq) [] rfl rfl hl.1 (Nat.le_of_ble_eq_true rfl) dX6_readSpeed_16 ⟨Nat.le_of_ble_eq_true rfl, Nat.le_of_ble_eq_true rfl⟩ (fun rH2 H2 locs hp hzH2 hkH2 hS => ?_)
    rcases hp with ⟨rfl, hq2, hM⟩ | ⟨rfl, hq2, hM⟩
    · rcases two5 hq2.2 with hv2 | hv2
      · have hd2 : dfa B (pz + 2) = 6 := (df_s hd1).trans (by rw [nx5, if_neg (by rw [hv2]; decide), bt_y (by rw [hv2]; decide)])
        refine lv_if_ne (tgt := 24) hx hb dX6_readSpeed_19 (by decide) (fun c2 => ?_) (fun c2 => absurd c2 (by decide))
        refine lv_aload_n hx hb dX6_readSpeed_24 rfl (lv_at hl 0 rfl) ?_
        refine lv_iconst (v := 1) hx hb dX6_readSpeed_25 (by decide) ?_
        refine dp_Vi hF hK hN (c_X6_digit l D G μ R S N E P B L1 L2 L3 sm kp th la (nI len) (nI (pz + 2)) (nI o) hs (pz + 2) (pz + 1) 1 _ hμ hM rfl (by omega) (by omega) (by decide)) (cwV 1 hts gX6_readSpeed_X6_digit rfl rfl rfl (by decide +kernel) ⟨Nat.le_of_ble_eq_true rfl, Nat.le_of_ble_eq_true rfl⟩) (dp_recv hK hM.1 rfl) hS nA_i [] rfl rfl hl.1 (Nat.le_of_ble_eq_true rfl) dX6_readSpeed_26 ⟨Nat.le_of_ble_eq_true rfl, Nat.le_of_ble_eq_true rfl⟩ (fun rH3 H3 locs hp hzH3 hkH3 hS => ?_)
        obtain ⟨rfl, rfl⟩ := hp
        refine lv_iconst (v := 4) hx hb dX6_readSpeed_29 (by decide) ?_
        refine lv_icmp_ne (tgt := 37) hx hb dX6_readSpeed_30 (by decide) (fun c3 => absurd c3 (fun q => q (by rw [hv2]; decide))) (fun c3 => ?_)
        refine lv_iconst (v := 1) hx hb dX6_readSpeed_33 (by decide) ?_
        refine lv_goto (tgt := 38) hx hb dX6_readSpeed_34 (by decide) ?_
        refine lv_istore_n (lv' := [(1, .int 1), (0, .ref (μ 0))]) hx hb dX6_readSpeed_38 rfl hl (by decide) rfl (fun ls hl => ?_)
        refine lv_aload_n hx hb dX6_readSpeed_39 rfl (lv_at hl 1 rfl) ?_
        refine lv_iload_n hx hb dX6_readSpeed_40 rfl (lv_at hl 0 rfl) ?_
        refine lv_if_eq (tgt := 49) hx hb dX6_readSpeed_41 (by decide) (fun c4 => absurd c4 (by decide)) (fun c4 => ?_)
        refine lv_bipush (v := 55) hx hb dX6_readSpeed_44 (by decide) ?_
        refine lv_goto (tgt := 51) hx hb dX6_readSpeed_46 (by decide) ?_
        refine lv_iload_n hx hb dX6_readSpeed_51 rfl (lv_at hl 0 rfl) ?_
        refine lv_if_eq (tgt := 60) hx hb dX6_readSpeed_52 (by decide) (fun c5 => absurd c5 (by decide)) (fun c5 => ?_)
        refine lv_bipush (v := 57) hx hb dX6_readSpeed_55 (by decide) ?_
        refine lv_goto (tgt := 62) hx hb dX6_readSpeed_57 (by decide) ?_
        refine dp_Vi hF hK hN (c_X6_takes l D G μ R S N E P B L1 L2 L3 sm kp th la (nI len) (nI (pz + 2)) (nI o) hs (pz + 2) len 55 57 _ hμ hM rfl rfl hq2.1 hl6) (cwV 2 hts gX6_readSpeed_X6_takes rfl rfl rfl (by decide +kernel) ⟨Nat.le_of_ble_eq_true rfl, Nat.le_of_ble_eq_true rfl⟩) (dp_recv hK hM.1 rfl) hS (fun q hq => hq) [] rfl rfl hl.1 (Nat.le_of_ble_eq_true rfl) dX6_readSpeed_62 ⟨Nat.le_of_ble_eq_true rfl, Nat.le_of_ble_eq_true rfl⟩ (fun rH4 H4 locs hp hzH4 hkH4 hS => ?_)
        rcases hp with ⟨rfl, hq3, hM⟩ | ⟨rfl, hq3, hM⟩
        · have hd3 : dfa B (pz + 3) = 10 := (df_s hd2).trans (by rw [nx6, bt_y hq3.2])
          refine lv_if_ne (tgt := 70) hx hb dX6_readSpeed_65 (by decide) (fun c6 => ?_) (fun c6 => absurd c6 (by decide))
          refine lv_aload_n hx hb dX6_readSpeed_70 rfl (lv_at hl 1 rfl) ?_
          refine lv_iconst (v := 2) hx hb dX6_readSpeed_71 (by decide) ?_
          refine dp_Vi hF hK hN (c_X6_digit l D G μ R S N E P B L1 L2 L3 sm kp th la (nI len) (nI (pz + 3)) (nI o) hs (pz + 3) (pz + 1) 2 _ hμ hM rfl (by omega) (by omega) (by decide)) (cwV 1 hts gX6_readSpeed_X6_digit rfl rfl rfl (by decide +kernel) ⟨Nat.le_of_ble_eq_true rfl, Nat.le_of_ble_eq_true rfl⟩) (dp_recv hK hM.1 rfl) hS nA_i [] rfl rfl hl.1 (Nat.le_of_ble_eq_true rfl) dX6_readSpeed_72 ⟨Nat.le_of_ble_eq_true rfl, Nat.le_of_ble_eq_true rfl⟩ (fun rH5 H5 locs hp hzH5 hkH5 hS => ?_)
          obtain ⟨rfl, rfl⟩ := hp
          refine lv_iconst (v := 5) hx hb dX6_readSpeed_75 (by decide) ?_
          refine lv_icmp_ne (tgt := 93) hx hb dX6_readSpeed_76 (by decide) (fun c7 => ?_) (fun c7 => absurd c7 (by rw [hv2]; decide))
          refine lv_bipush (v := 57) hx hb dX6_readSpeed_93 (by decide) ?_
          refine lv_istore_n (lv' := [(2, .int 57), (1, .int 1), (0, .ref (μ 0))]) hx hb dX6_readSpeed_95 rfl hl (by decide) rfl (fun ls hl => ?_)
          refine lv_aload_n hx hb dX6_readSpeed_96 rfl (lv_at hl 2 rfl) ?_
          refine lv_bipush (v := 48) hx hb dX6_readSpeed_97 (by decide) ?_
          refine lv_iload_n hx hb dX6_readSpeed_99 rfl (lv_at hl 0 rfl) ?_
          refine dp_Vi hF hK hN (c_X6_takes l D G μ R S N E P B L1 L2 L3 sm kp th la (nI len) (nI (pz + 3)) (nI o) hs (pz + 3) len 48 57 _ hμ hM rfl rfl hq3.1 hl6) (cwV 2 hts gX6_readSpeed_X6_takes rfl rfl rfl (by decide +kernel) ⟨Nat.le_of_ble_eq_true rfl, Nat.le_of_ble_eq_true rfl⟩) (dp_recv hK hM.1 rfl) hS (fun q hq => hq) [] rfl rfl hl.1 (Nat.le_of_ble_eq_true rfl) dX6_readSpeed_100 ⟨Nat.le_of_ble_eq_true rfl, Nat.le_of_ble_eq_true rfl⟩ (fun rH6 H6 locs hp hzH6 hkH6 hS => ?_)
          rcases hp with ⟨rfl, hq4, hM⟩ | ⟨rfl, hq4, hM⟩
          · have hd4 : dfa B (pz + 4) = 11 := (df_s hd3).trans (by rw [nx10, bt_y hq4.2])
            refine lv_if_eq (tgt := 116) hx hb dX6_readSpeed_103 (by decide) (fun c8 => absurd c8 (by decide)) (fun c8 => ?_)
            refine lv_aload_n hx hb dX6_readSpeed_106 rfl (lv_at hl 2 rfl) ?_
            refine lv_bipush (v := 48) hx hb dX6_readSpeed_107 (by decide) ?_
            refine lv_iload_n hx hb dX6_readSpeed_109 rfl (lv_at hl 0 rfl) ?_
            refine dp_Vi hF hK hN (c_X6_takes l D G μ R S N E P B L1 L2 L3 sm kp th la (nI len) (nI (pz + 4)) (nI o) hs (pz + 4) len 48 57 _ hμ hM rfl rfl hq4.1 hl6) (cwV 2 hts gX6_readSpeed_X6_takes rfl rfl rfl (by decide +kernel) ⟨Nat.le_of_ble_eq_true rfl, Nat.le_of_ble_eq_true rfl⟩) (dp_recv hK hM.1 rfl) hS (fun q hq => hq) [] rfl rfl hl.1 (Nat.le_of_ble_eq_true rfl) dX6_readSpeed_110 ⟨Nat.le_of_ble_eq_true rfl, Nat.le_of_ble_eq_true rfl⟩ (fun rH7 H7 locs hp hzH7 hkH7 hS => ?_)
            rcases hp with ⟨rfl, hq5, hM⟩ | ⟨rfl, hq5, hM⟩
            · have hd5 : dfa B (pz + 5) = 16 := (df_s hd4).trans (by rw [nx11, bt_y hq5.2])
              refine lv_if_ne (tgt := 118) hx hb dX6_readSpeed_113 (by decide) (fun c9 => ?_) (fun c9 => absurd c9 (by decide))
              refine lv_aload_n hx hb dX6_readSpeed_118 rfl (lv_at hl 2 rfl) ?_
              refine dp_get hx hb hts (dp_hin 18 rfl) hown hK hM.1 rfl 15 (by decide) (hts (.fieldLink RX6 34 "DroopBoardModel" "second" "[I") (List.mem_of_getElem? (i := 1) rfl)) rfl dX6_readSpeed_119 ?_
              refine lv_aload_n hx hb dX6_readSpeed_122 rfl (lv_at hl 2 rfl) ?_
              refine dp_get hx hb hts (dp_hin 18 rfl) hown hK hM.1 rfl 12 (by decide) (hts (.fieldLink RX6 165 "DroopBoardModel" "orders" "I") (List.mem_of_getElem? (i := 2) rfl)) rfl dX6_readSpeed_123 ?_
              refine lv_sipush (v := 1000) hx hb dX6_readSpeed_126 (by decide) ?_
              refine lv_aload_n hx hb dX6_readSpeed_129 rfl (lv_at hl 2 rfl) ?_
              refine lv_iconst (v := 4) hx hb dX6_readSpeed_130 (by decide) ?_
              refine dp_Vi hF hK hN (c_X6_digit l D G μ R S N E P B L1 L2 L3 sm kp th la (nI len) (nI (pz + 5)) (nI o) hs (pz + 5) (pz + 1) 4 _ hμ hM rfl (by omega) (by omega) (by decide)) (cwV 1 hts gX6_readSpeed_X6_digit rfl rfl rfl (by decide +kernel) ⟨Nat.le_of_ble_eq_true rfl, Nat.le_of_ble_eq_true rfl⟩) (dp_recv hK hM.1 rfl) hS nA_i [.int 1000, .int (nI o), .ref (μ 9)] rfl rfl hl.1 (Nat.le_of_ble_eq_true rfl) dX6_readSpeed_131 ⟨Nat.le_of_ble_eq_true rfl, Nat.le_of_ble_eq_true rfl⟩ (fun rH8 H8 locs hp hzH8 hkH8 hS => ?_)
              obtain ⟨rfl, rfl⟩ := hp
              refine lv_imul hx hb dX6_readSpeed_134 ?_
              refine lv_bipush (v := 100) hx hb dX6_readSpeed_135 (by decide) ?_
              refine lv_aload_n hx hb dX6_readSpeed_137 rfl (lv_at hl 2 rfl) ?_
              refine lv_iconst (v := 3) hx hb dX6_readSpeed_138 (by decide) ?_
              refine dp_Vi hF hK hN (c_X6_digit l D G μ R S N E P B L1 L2 L3 sm kp th la (nI len) (nI (pz + 5)) (nI o) hs (pz + 5) (pz + 2) 3 _ hμ hM rfl (by omega) (by omega) (by decide)) (cwV 1 hts gX6_readSpeed_X6_digit rfl rfl rfl (by decide +kernel) ⟨Nat.le_of_ble_eq_true rfl, Nat.le_of_ble_eq_true rfl⟩) (dp_recv hK hM.1 rfl) hS nA_i [.int 100, .int (1000 * (B (pz + 1) - 48)), .int (nI o), .ref (μ 9)] rfl rfl hl.1 (Nat.le_of_ble_eq_true rfl) dX6_readSpeed_139 ⟨Nat.le_of_ble_eq_true rfl, Nat.le_of_ble_eq_true rfl⟩ (fun rH9 H9 locs hp hzH9 hkH9 hS => ?_)
              obtain ⟨rfl, rfl⟩ := hp
              refine lv_imul hx hb dX6_readSpeed_142 ?_
              refine lv_iadd hx hb dX6_readSpeed_143 ?_
              refine lv_bipush (v := 10) hx hb dX6_readSpeed_144 (by decide) ?_
              refine lv_aload_n hx hb dX6_readSpeed_146 rfl (lv_at hl 2 rfl) ?_
              refine lv_iconst (v := 2) hx hb dX6_readSpeed_147 (by decide) ?_
              refine dp_Vi hF hK hN (c_X6_digit l D G μ R S N E P B L1 L2 L3 sm kp th la (nI len) (nI (pz + 5)) (nI o) hs (pz + 5) (pz + 3) 2 _ hμ hM rfl (by omega) (by omega) (by decide)) (cwV 1 hts gX6_readSpeed_X6_digit rfl rfl rfl (by decide +kernel) ⟨Nat.le_of_ble_eq_true rfl, Nat.le_of_ble_eq_true rfl⟩) (dp_recv hK hM.1 rfl) hS nA_i [.int 10, .int ((1000 * (B (pz + 1) - 48)) + (100 * (B (pz + 2) - 48))), .int (nI o), .ref (μ 9)] rfl rfl hl.1 (Nat.le_of_ble_eq_true rfl) dX6_readSpeed_148 ⟨Nat.le_of_ble_eq_true rfl, Nat.le_of_ble_eq_true rfl⟩ (fun rH10 H10 locs hp hzH10 hkH10 hS => ?_)
              obtain ⟨rfl, rfl⟩ := hp
              refine lv_imul hx hb dX6_readSpeed_151 ?_
              refine lv_iadd hx hb dX6_readSpeed_152 ?_
              refine lv_aload_n hx hb dX6_readSpeed_153 rfl (lv_at hl 2 rfl) ?_
              refine lv_iconst (v := 1) hx hb dX6_readSpeed_154 (by decide) ?_
              refine dp_Vi hF hK hN (c_X6_digit l D G μ R S N E P B L1 L2 L3 sm kp th la (nI len) (nI (pz + 5)) (nI o) hs (pz + 5) (pz + 4) 1 _ hμ hM rfl (by omega) (by omega) (by decide)) (cwV 1 hts gX6_readSpeed_X6_digit rfl rfl rfl (by decide +kernel) ⟨Nat.le_of_ble_eq_true rfl, Nat.le_of_ble_eq_true rfl⟩) (dp_recv hK hM.1 rfl) hS nA_i [.int (((1000 * (B (pz + 1) - 48)) + (100 * (B (pz + 2) - 48))) + (10 * (B (pz + 3) - 48))), .int (nI o), .ref (μ 9)] rfl rfl hl.1 (Nat.le_of_ble_eq_true rfl) dX6_readSpeed_155 ⟨Nat.le_of_ble_eq_true rfl, Nat.le_of_ble_eq_true rfl⟩ (fun rH11 H11 locs hp hzH11 hkH11 hS => ?_)
              obtain ⟨rfl, rfl⟩ := hp
              refine lv_iadd hx hb dX6_readSpeed_158 ?_
              refine dp_iast (A := A6 μ) hx hb hK hM.2.2.2.2.2.2.2.2.2 (⟨9, by decide, rfl⟩ : A6 μ (μ 9)) hS 0 rfl o rfl (by omega) (by decide) dX6_readSpeed_159 (fun H12 locs hH12 hzH12 hkH12 hS => ?_)
              have hM := hM.a9 (X' := upd L3 o ((((1000 * (B (pz + 1) - 48)) + (100 * (B (pz + 2) - 48))) + (10 * (B (pz + 3) - 48))) + (B (pz + 4) - 48))) hμ hH12 hkH12
              refine lv_iconst (v := 1) hx hb dX6_readSpeed_160 (by decide) ?_
              obtain ⟨v9, hv9, ev, en⟩ := spd4 hq5.1 hv2 hq3.2 hq4.2 hq5.2
              exact W.zret (ty := .boolean) hx hb hr rfl (fun t ht hW => ⟨⟨1, H12, rfl, Or.inl ⟨rfl, hq5.1, hd5, no59_5 (c_not hq1.2 (Or.inl (by decide))) (by rw [hv2]; decide) (c_not hq3.2 (Or.inr (by decide))) (c_not hq4.2 (Or.inr (by decide))) (c_not hq5.2 (Or.inr (by decide))), v9, hv9, en, by rw [← ev]; exact hM⟩, ht⟩, hS.F ht⟩) hS.2.2 dX6_readSpeed_161
            · refine lv_if_ne (tgt := 118) hx hb dX6_readSpeed_113 (by decide) (fun c10 => absurd c10 (by decide)) (fun c10 => ?_)
              refine lv_iconst (v := 0) hx hb dX6_readSpeed_116 (by decide) ?_
              exact W.zret (ty := .boolean) hx hb hr rfl (fun t ht hW => ⟨⟨0, H7, rfl, Or.inr ⟨rfl, _, bad_n hd4 (by decide) (by decide) (by decide) hq4.1 hq5 (fun h => by rw [nx11, bt_n h]), hq4.1, hM⟩, ht⟩, hS.F ht⟩) hS.2.2 dX6_readSpeed_117
          · refine lv_if_eq (tgt := 116) hx hb dX6_readSpeed_103 (by decide) (fun c11 => ?_) (fun c11 => absurd (by decide) c11)
            refine lv_iconst (v := 0) hx hb dX6_readSpeed_116 (by decide) ?_
            exact W.zret (ty := .boolean) hx hb hr rfl (fun t ht hW => ⟨⟨0, H6, rfl, Or.inr ⟨rfl, _, bad_n hd3 (by decide) (by decide) (by decide) hq3.1 hq4 (fun h => by rw [nx10, bt_n h]), hq3.1, hM⟩, ht⟩, hS.F ht⟩) hS.2.2 dX6_readSpeed_117
        · refine lv_if_ne (tgt := 70) hx hb dX6_readSpeed_65 (by decide) (fun c12 => absurd c12 (by decide)) (fun c12 => ?_)
          refine lv_iconst (v := 0) hx hb dX6_readSpeed_68 (by decide) ?_
          exact W.zret (ty := .boolean) hx hb hr rfl (fun t ht hW => ⟨⟨0, H4, rfl, Or.inr ⟨rfl, _, bad_n hd2 (by decide) (by decide) (by decide) hq2.1 hq3 (fun h => by rw [nx6, bt_n h]), hq2.1, hM⟩, ht⟩, hS.F ht⟩) hS.2.2 dX6_readSpeed_69
      · have hd2 : dfa B (pz + 2) = 7 := (df_s hd1).trans (by rw [nx5, if_pos hv2])
        refine lv_if_ne (tgt := 24) hx hb dX6_readSpeed_19 (by decide) (fun c13 => ?_) (fun c13 => absurd c13 (by decide))
        refine lv_aload_n hx hb dX6_readSpeed_24 rfl (lv_at hl 0 rfl) ?_
        refine lv_iconst (v := 1) hx hb dX6_readSpeed_25 (by decide) ?_
        refine dp_Vi hF hK hN (c_X6_digit l D G μ R S N E P B L1 L2 L3 sm kp th la (nI len) (nI (pz + 2)) (nI o) hs (pz + 2) (pz + 1) 1 _ hμ hM rfl (by omega) (by omega) (by decide)) (cwV 1 hts gX6_readSpeed_X6_digit rfl rfl rfl (by decide +kernel) ⟨Nat.le_of_ble_eq_true rfl, Nat.le_of_ble_eq_true rfl⟩) (dp_recv hK hM.1 rfl) hS nA_i [] rfl rfl hl.1 (Nat.le_of_ble_eq_true rfl) dX6_readSpeed_26 ⟨Nat.le_of_ble_eq_true rfl, Nat.le_of_ble_eq_true rfl⟩ (fun rH13 H13 locs hp hzH13 hkH13 hS => ?_)
        obtain ⟨rfl, rfl⟩ := hp
        refine lv_iconst (v := 4) hx hb dX6_readSpeed_29 (by decide) ?_
        refine lv_icmp_ne (tgt := 37) hx hb dX6_readSpeed_30 (by decide) (fun c14 => ?_) (fun c14 => absurd c14 (by rw [hv2]; decide))
        refine lv_iconst (v := 0) hx hb dX6_readSpeed_37 (by decide) ?_
        refine lv_istore_n (lv' := [(1, .int 0), (0, .ref (μ 0))]) hx hb dX6_readSpeed_38 rfl hl (by decide) rfl (fun ls hl => ?_)
        refine lv_aload_n hx hb dX6_readSpeed_39 rfl (lv_at hl 1 rfl) ?_
        refine lv_iload_n hx hb dX6_readSpeed_40 rfl (lv_at hl 0 rfl) ?_
        refine lv_if_eq (tgt := 49) hx hb dX6_readSpeed_41 (by decide) (fun c15 => ?_) (fun c15 => absurd (by decide) c15)
        refine lv_bipush (v := 48) hx hb dX6_readSpeed_49 (by decide) ?_
        refine lv_iload_n hx hb dX6_readSpeed_51 rfl (lv_at hl 0 rfl) ?_
        refine lv_if_eq (tgt := 60) hx hb dX6_readSpeed_52 (by decide) (fun c16 => ?_) (fun c16 => absurd (by decide) c16)
        refine lv_bipush (v := 51) hx hb dX6_readSpeed_60 (by decide) ?_
        refine dp_Vi hF hK hN (c_X6_takes l D G μ R S N E P B L1 L2 L3 sm kp th la (nI len) (nI (pz + 2)) (nI o) hs (pz + 2) len 48 51 _ hμ hM rfl rfl hq2.1 hl6) (cwV 2 hts gX6_readSpeed_X6_takes rfl rfl rfl (by decide +kernel) ⟨Nat.le_of_ble_eq_true rfl, Nat.le_of_ble_eq_true rfl⟩) (dp_recv hK hM.1 rfl) hS (fun q hq => hq) [] rfl rfl hl.1 (Nat.le_of_ble_eq_true rfl) dX6_readSpeed_62 ⟨Nat.le_of_ble_eq_true rfl, Nat.le_of_ble_eq_true rfl⟩ (fun rH14 H14 locs hp hzH14 hkH14 hS => ?_)
        rcases hp with ⟨rfl, hq6, hM⟩ | ⟨rfl, hq6, hM⟩
        · rcases two7 hq6.2 with hv6 | hv6
          · have hd6 : dfa B (pz + 3) = 8 := (df_s hd2).trans (by rw [nx7, if_pos hv6])
            refine lv_if_ne (tgt := 70) hx hb dX6_readSpeed_65 (by decide) (fun c17 => ?_) (fun c17 => absurd c17 (by decide))
            refine lv_aload_n hx hb dX6_readSpeed_70 rfl (lv_at hl 1 rfl) ?_
            refine lv_iconst (v := 2) hx hb dX6_readSpeed_71 (by decide) ?_
            refine dp_Vi hF hK hN (c_X6_digit l D G μ R S N E P B L1 L2 L3 sm kp th la (nI len) (nI (pz + 3)) (nI o) hs (pz + 3) (pz + 1) 2 _ hμ hM rfl (by omega) (by omega) (by decide)) (cwV 1 hts gX6_readSpeed_X6_digit rfl rfl rfl (by decide +kernel) ⟨Nat.le_of_ble_eq_true rfl, Nat.le_of_ble_eq_true rfl⟩) (dp_recv hK hM.1 rfl) hS nA_i [] rfl rfl hl.1 (Nat.le_of_ble_eq_true rfl) dX6_readSpeed_72 ⟨Nat.le_of_ble_eq_true rfl, Nat.le_of_ble_eq_true rfl⟩ (fun rH15 H15 locs hp hzH15 hkH15 hS => ?_)
            obtain ⟨rfl, rfl⟩ := hp
            refine lv_iconst (v := 5) hx hb dX6_readSpeed_75 (by decide) ?_
            refine lv_icmp_ne (tgt := 93) hx hb dX6_readSpeed_76 (by decide) (fun c18 => absurd c18 (fun q => q (by rw [hv2]; decide))) (fun c18 => ?_)
            refine lv_aload_n hx hb dX6_readSpeed_79 rfl (lv_at hl 1 rfl) ?_
            refine lv_iconst (v := 1) hx hb dX6_readSpeed_80 (by decide) ?_
            refine dp_Vi hF hK hN (c_X6_digit l D G μ R S N E P B L1 L2 L3 sm kp th la (nI len) (nI (pz + 3)) (nI o) hs (pz + 3) (pz + 2) 1 _ hμ hM rfl (by omega) (by omega) (by decide)) (cwV 1 hts gX6_readSpeed_X6_digit rfl rfl rfl (by decide +kernel) ⟨Nat.le_of_ble_eq_true rfl, Nat.le_of_ble_eq_true rfl⟩) (dp_recv hK hM.1 rfl) hS nA_i [] rfl rfl hl.1 (Nat.le_of_ble_eq_true rfl) dX6_readSpeed_81 ⟨Nat.le_of_ble_eq_true rfl, Nat.le_of_ble_eq_true rfl⟩ (fun rH16 H16 locs hp hzH16 hkH16 hS => ?_)
            obtain ⟨rfl, rfl⟩ := hp
            refine lv_iconst (v := 3) hx hb dX6_readSpeed_84 (by decide) ?_
            refine lv_icmp_ne (tgt := 93) hx hb dX6_readSpeed_85 (by decide) (fun c19 => absurd c19 (fun q => q (by rw [hv6]; decide))) (fun c19 => ?_)
            refine lv_bipush (v := 48) hx hb dX6_readSpeed_88 (by decide) ?_
            refine lv_goto (tgt := 95) hx hb dX6_readSpeed_90 (by decide) ?_
            refine lv_istore_n (lv' := [(2, .int 48), (1, .int 0), (0, .ref (μ 0))]) hx hb dX6_readSpeed_95 rfl hl (by decide) rfl (fun ls hl => ?_)
            refine lv_aload_n hx hb dX6_readSpeed_96 rfl (lv_at hl 2 rfl) ?_
            refine lv_bipush (v := 48) hx hb dX6_readSpeed_97 (by decide) ?_
            refine lv_iload_n hx hb dX6_readSpeed_99 rfl (lv_at hl 0 rfl) ?_
            refine dp_Vi hF hK hN (c_X6_takes l D G μ R S N E P B L1 L2 L3 sm kp th la (nI len) (nI (pz + 3)) (nI o) hs (pz + 3) len 48 48 _ hμ hM rfl rfl hq6.1 hl6) (cwV 2 hts gX6_readSpeed_X6_takes rfl rfl rfl (by decide +kernel) ⟨Nat.le_of_ble_eq_true rfl, Nat.le_of_ble_eq_true rfl⟩) (dp_recv hK hM.1 rfl) hS (fun q hq => hq) [] rfl rfl hl.1 (Nat.le_of_ble_eq_true rfl) dX6_readSpeed_100 ⟨Nat.le_of_ble_eq_true rfl, Nat.le_of_ble_eq_true rfl⟩ (fun rH17 H17 locs hp hzH17 hkH17 hS => ?_)
            rcases hp with ⟨rfl, hq7, hM⟩ | ⟨rfl, hq7, hM⟩
            · have hd7 : dfa B (pz + 4) = 9 := (df_s hd6).trans (by rw [nx8, bt_y hq7.2])
              refine lv_if_eq (tgt := 116) hx hb dX6_readSpeed_103 (by decide) (fun c20 => absurd c20 (by decide)) (fun c20 => ?_)
              refine lv_aload_n hx hb dX6_readSpeed_106 rfl (lv_at hl 2 rfl) ?_
              refine lv_bipush (v := 48) hx hb dX6_readSpeed_107 (by decide) ?_
              refine lv_iload_n hx hb dX6_readSpeed_109 rfl (lv_at hl 0 rfl) ?_
              refine dp_Vi hF hK hN (c_X6_takes l D G μ R S N E P B L1 L2 L3 sm kp th la (nI len) (nI (pz + 4)) (nI o) hs (pz + 4) len 48 48 _ hμ hM rfl rfl hq7.1 hl6) (cwV 2 hts gX6_readSpeed_X6_takes rfl rfl rfl (by decide +kernel) ⟨Nat.le_of_ble_eq_true rfl, Nat.le_of_ble_eq_true rfl⟩) (dp_recv hK hM.1 rfl) hS (fun q hq => hq) [] rfl rfl hl.1 (Nat.le_of_ble_eq_true rfl) dX6_readSpeed_110 ⟨Nat.le_of_ble_eq_true rfl, Nat.le_of_ble_eq_true rfl⟩ (fun rH18 H18 locs hp hzH18 hkH18 hS => ?_)
              rcases hp with ⟨rfl, hq8, hM⟩ | ⟨rfl, hq8, hM⟩
              · have hd8 : dfa B (pz + 5) = 16 := (df_s hd7).trans (by rw [nx9, bt_y hq8.2])
                refine lv_if_ne (tgt := 118) hx hb dX6_readSpeed_113 (by decide) (fun c21 => ?_) (fun c21 => absurd c21 (by decide))
                refine lv_aload_n hx hb dX6_readSpeed_118 rfl (lv_at hl 2 rfl) ?_
                refine dp_get hx hb hts (dp_hin 18 rfl) hown hK hM.1 rfl 15 (by decide) (hts (.fieldLink RX6 34 "DroopBoardModel" "second" "[I") (List.mem_of_getElem? (i := 1) rfl)) rfl dX6_readSpeed_119 ?_
                refine lv_aload_n hx hb dX6_readSpeed_122 rfl (lv_at hl 2 rfl) ?_
                refine dp_get hx hb hts (dp_hin 18 rfl) hown hK hM.1 rfl 12 (by decide) (hts (.fieldLink RX6 165 "DroopBoardModel" "orders" "I") (List.mem_of_getElem? (i := 2) rfl)) rfl dX6_readSpeed_123 ?_
                refine lv_sipush (v := 1000) hx hb dX6_readSpeed_126 (by decide) ?_
                refine lv_aload_n hx hb dX6_readSpeed_129 rfl (lv_at hl 2 rfl) ?_
                refine lv_iconst (v := 4) hx hb dX6_readSpeed_130 (by decide) ?_
                refine dp_Vi hF hK hN (c_X6_digit l D G μ R S N E P B L1 L2 L3 sm kp th la (nI len) (nI (pz + 5)) (nI o) hs (pz + 5) (pz + 1) 4 _ hμ hM rfl (by omega) (by omega) (by decide)) (cwV 1 hts gX6_readSpeed_X6_digit rfl rfl rfl (by decide +kernel) ⟨Nat.le_of_ble_eq_true rfl, Nat.le_of_ble_eq_true rfl⟩) (dp_recv hK hM.1 rfl) hS nA_i [.int 1000, .int (nI o), .ref (μ 9)] rfl rfl hl.1 (Nat.le_of_ble_eq_true rfl) dX6_readSpeed_131 ⟨Nat.le_of_ble_eq_true rfl, Nat.le_of_ble_eq_true rfl⟩ (fun rH19 H19 locs hp hzH19 hkH19 hS => ?_)
                obtain ⟨rfl, rfl⟩ := hp
                refine lv_imul hx hb dX6_readSpeed_134 ?_
                refine lv_bipush (v := 100) hx hb dX6_readSpeed_135 (by decide) ?_
                refine lv_aload_n hx hb dX6_readSpeed_137 rfl (lv_at hl 2 rfl) ?_
                refine lv_iconst (v := 3) hx hb dX6_readSpeed_138 (by decide) ?_
                refine dp_Vi hF hK hN (c_X6_digit l D G μ R S N E P B L1 L2 L3 sm kp th la (nI len) (nI (pz + 5)) (nI o) hs (pz + 5) (pz + 2) 3 _ hμ hM rfl (by omega) (by omega) (by decide)) (cwV 1 hts gX6_readSpeed_X6_digit rfl rfl rfl (by decide +kernel) ⟨Nat.le_of_ble_eq_true rfl, Nat.le_of_ble_eq_true rfl⟩) (dp_recv hK hM.1 rfl) hS nA_i [.int 100, .int (1000 * (B (pz + 1) - 48)), .int (nI o), .ref (μ 9)] rfl rfl hl.1 (Nat.le_of_ble_eq_true rfl) dX6_readSpeed_139 ⟨Nat.le_of_ble_eq_true rfl, Nat.le_of_ble_eq_true rfl⟩ (fun rH20 H20 locs hp hzH20 hkH20 hS => ?_)
                obtain ⟨rfl, rfl⟩ := hp
                refine lv_imul hx hb dX6_readSpeed_142 ?_
                refine lv_iadd hx hb dX6_readSpeed_143 ?_
                refine lv_bipush (v := 10) hx hb dX6_readSpeed_144 (by decide) ?_
                refine lv_aload_n hx hb dX6_readSpeed_146 rfl (lv_at hl 2 rfl) ?_
                refine lv_iconst (v := 2) hx hb dX6_readSpeed_147 (by decide) ?_
                refine dp_Vi hF hK hN (c_X6_digit l D G μ R S N E P B L1 L2 L3 sm kp th la (nI len) (nI (pz + 5)) (nI o) hs (pz + 5) (pz + 3) 2 _ hμ hM rfl (by omega) (by omega) (by decide)) (cwV 1 hts gX6_readSpeed_X6_digit rfl rfl rfl (by decide +kernel) ⟨Nat.le_of_ble_eq_true rfl, Nat.le_of_ble_eq_true rfl⟩) (dp_recv hK hM.1 rfl) hS nA_i [.int 10, .int ((1000 * (B (pz + 1) - 48)) + (100 * (B (pz + 2) - 48))), .int (nI o), .ref (μ 9)] rfl rfl hl.1 (Nat.le_of_ble_eq_true rfl) dX6_readSpeed_148 ⟨Nat.le_of_ble_eq_true rfl, Nat.le_of_ble_eq_true rfl⟩ (fun rH21 H21 locs hp hzH21 hkH21 hS => ?_)
                obtain ⟨rfl, rfl⟩ := hp
                refine lv_imul hx hb dX6_readSpeed_151 ?_
                refine lv_iadd hx hb dX6_readSpeed_152 ?_
                refine lv_aload_n hx hb dX6_readSpeed_153 rfl (lv_at hl 2 rfl) ?_
                refine lv_iconst (v := 1) hx hb dX6_readSpeed_154 (by decide) ?_
                refine dp_Vi hF hK hN (c_X6_digit l D G μ R S N E P B L1 L2 L3 sm kp th la (nI len) (nI (pz + 5)) (nI o) hs (pz + 5) (pz + 4) 1 _ hμ hM rfl (by omega) (by omega) (by decide)) (cwV 1 hts gX6_readSpeed_X6_digit rfl rfl rfl (by decide +kernel) ⟨Nat.le_of_ble_eq_true rfl, Nat.le_of_ble_eq_true rfl⟩) (dp_recv hK hM.1 rfl) hS nA_i [.int (((1000 * (B (pz + 1) - 48)) + (100 * (B (pz + 2) - 48))) + (10 * (B (pz + 3) - 48))), .int (nI o), .ref (μ 9)] rfl rfl hl.1 (Nat.le_of_ble_eq_true rfl) dX6_readSpeed_155 ⟨Nat.le_of_ble_eq_true rfl, Nat.le_of_ble_eq_true rfl⟩ (fun rH22 H22 locs hp hzH22 hkH22 hS => ?_)
                obtain ⟨rfl, rfl⟩ := hp
                refine lv_iadd hx hb dX6_readSpeed_158 ?_
                refine dp_iast (A := A6 μ) hx hb hK hM.2.2.2.2.2.2.2.2.2 (⟨9, by decide, rfl⟩ : A6 μ (μ 9)) hS 0 rfl o rfl (by omega) (by decide) dX6_readSpeed_159 (fun H23 locs hH23 hzH23 hkH23 hS => ?_)
                have hM := hM.a9 (X' := upd L3 o ((((1000 * (B (pz + 1) - 48)) + (100 * (B (pz + 2) - 48))) + (10 * (B (pz + 3) - 48))) + (B (pz + 4) - 48))) hμ hH23 hkH23
                refine lv_iconst (v := 1) hx hb dX6_readSpeed_160 (by decide) ?_
                obtain ⟨v9, hv9, ev, en⟩ := spd3 hq8.1 hv2 hv6 hq7.2 hq8.2
                exact W.zret (ty := .boolean) hx hb hr rfl (fun t ht hW => ⟨⟨1, H23, rfl, Or.inl ⟨rfl, hq8.1, hd8, no59_5 (c_not hq1.2 (Or.inl (by decide))) (by rw [hv2]; decide) (by rw [hv6]; decide) (c_not hq7.2 (Or.inr (by decide))) (c_not hq8.2 (Or.inr (by decide))), v9, hv9, en, by rw [← ev]; exact hM⟩, ht⟩, hS.F ht⟩) hS.2.2 dX6_readSpeed_161
              · refine lv_if_ne (tgt := 118) hx hb dX6_readSpeed_113 (by decide) (fun c22 => absurd c22 (by decide)) (fun c22 => ?_)
                refine lv_iconst (v := 0) hx hb dX6_readSpeed_116 (by decide) ?_
                exact W.zret (ty := .boolean) hx hb hr rfl (fun t ht hW => ⟨⟨0, H18, rfl, Or.inr ⟨rfl, _, bad_n hd7 (by decide) (by decide) (by decide) hq7.1 hq8 (fun h => by rw [nx9, bt_n h]), hq7.1, hM⟩, ht⟩, hS.F ht⟩) hS.2.2 dX6_readSpeed_117
            · refine lv_if_eq (tgt := 116) hx hb dX6_readSpeed_103 (by decide) (fun c23 => ?_) (fun c23 => absurd (by decide) c23)
              refine lv_iconst (v := 0) hx hb dX6_readSpeed_116 (by decide) ?_
              exact W.zret (ty := .boolean) hx hb hr rfl (fun t ht hW => ⟨⟨0, H17, rfl, Or.inr ⟨rfl, _, bad_n hd6 (by decide) (by decide) (by decide) hq6.1 hq7 (fun h => by rw [nx8, bt_n h]), hq6.1, hM⟩, ht⟩, hS.F ht⟩) hS.2.2 dX6_readSpeed_117
          · have hd6 : dfa B (pz + 3) = 10 := (df_s hd2).trans (by rw [nx7, if_neg hv6.1, bt_y hv6.2])
            refine lv_if_ne (tgt := 70) hx hb dX6_readSpeed_65 (by decide) (fun c24 => ?_) (fun c24 => absurd c24 (by decide))
            refine lv_aload_n hx hb dX6_readSpeed_70 rfl (lv_at hl 1 rfl) ?_
            refine lv_iconst (v := 2) hx hb dX6_readSpeed_71 (by decide) ?_
            refine dp_Vi hF hK hN (c_X6_digit l D G μ R S N E P B L1 L2 L3 sm kp th la (nI len) (nI (pz + 3)) (nI o) hs (pz + 3) (pz + 1) 2 _ hμ hM rfl (by omega) (by omega) (by decide)) (cwV 1 hts gX6_readSpeed_X6_digit rfl rfl rfl (by decide +kernel) ⟨Nat.le_of_ble_eq_true rfl, Nat.le_of_ble_eq_true rfl⟩) (dp_recv hK hM.1 rfl) hS nA_i [] rfl rfl hl.1 (Nat.le_of_ble_eq_true rfl) dX6_readSpeed_72 ⟨Nat.le_of_ble_eq_true rfl, Nat.le_of_ble_eq_true rfl⟩ (fun rH24 H24 locs hp hzH24 hkH24 hS => ?_)
            obtain ⟨rfl, rfl⟩ := hp
            refine lv_iconst (v := 5) hx hb dX6_readSpeed_75 (by decide) ?_
            refine lv_icmp_ne (tgt := 93) hx hb dX6_readSpeed_76 (by decide) (fun c25 => absurd c25 (fun q => q (by rw [hv2]; decide))) (fun c25 => ?_)
            refine lv_aload_n hx hb dX6_readSpeed_79 rfl (lv_at hl 1 rfl) ?_
            refine lv_iconst (v := 1) hx hb dX6_readSpeed_80 (by decide) ?_
            refine dp_Vi hF hK hN (c_X6_digit l D G μ R S N E P B L1 L2 L3 sm kp th la (nI len) (nI (pz + 3)) (nI o) hs (pz + 3) (pz + 2) 1 _ hμ hM rfl (by omega) (by omega) (by decide)) (cwV 1 hts gX6_readSpeed_X6_digit rfl rfl rfl (by decide +kernel) ⟨Nat.le_of_ble_eq_true rfl, Nat.le_of_ble_eq_true rfl⟩) (dp_recv hK hM.1 rfl) hS nA_i [] rfl rfl hl.1 (Nat.le_of_ble_eq_true rfl) dX6_readSpeed_81 ⟨Nat.le_of_ble_eq_true rfl, Nat.le_of_ble_eq_true rfl⟩ (fun rH25 H25 locs hp hzH25 hkH25 hS => ?_)
            obtain ⟨rfl, rfl⟩ := hp
            refine lv_iconst (v := 3) hx hb dX6_readSpeed_84 (by decide) ?_
            refine lv_icmp_ne (tgt := 93) hx hb dX6_readSpeed_85 (by decide) (fun c26 => ?_) (fun c26 => absurd c26 (fun q => hv6.1 (d_3 q)))
            refine lv_bipush (v := 57) hx hb dX6_readSpeed_93 (by decide) ?_
            refine lv_istore_n (lv' := [(2, .int 57), (1, .int 0), (0, .ref (μ 0))]) hx hb dX6_readSpeed_95 rfl hl (by decide) rfl (fun ls hl => ?_)
            refine lv_aload_n hx hb dX6_readSpeed_96 rfl (lv_at hl 2 rfl) ?_
            refine lv_bipush (v := 48) hx hb dX6_readSpeed_97 (by decide) ?_
            refine lv_iload_n hx hb dX6_readSpeed_99 rfl (lv_at hl 0 rfl) ?_
            refine dp_Vi hF hK hN (c_X6_takes l D G μ R S N E P B L1 L2 L3 sm kp th la (nI len) (nI (pz + 3)) (nI o) hs (pz + 3) len 48 57 _ hμ hM rfl rfl hq6.1 hl6) (cwV 2 hts gX6_readSpeed_X6_takes rfl rfl rfl (by decide +kernel) ⟨Nat.le_of_ble_eq_true rfl, Nat.le_of_ble_eq_true rfl⟩) (dp_recv hK hM.1 rfl) hS (fun q hq => hq) [] rfl rfl hl.1 (Nat.le_of_ble_eq_true rfl) dX6_readSpeed_100 ⟨Nat.le_of_ble_eq_true rfl, Nat.le_of_ble_eq_true rfl⟩ (fun rH26 H26 locs hp hzH26 hkH26 hS => ?_)
            rcases hp with ⟨rfl, hq9, hM⟩ | ⟨rfl, hq9, hM⟩
            · have hd9 : dfa B (pz + 4) = 11 := (df_s hd6).trans (by rw [nx10, bt_y hq9.2])
              refine lv_if_eq (tgt := 116) hx hb dX6_readSpeed_103 (by decide) (fun c27 => absurd c27 (by decide)) (fun c27 => ?_)
              refine lv_aload_n hx hb dX6_readSpeed_106 rfl (lv_at hl 2 rfl) ?_
              refine lv_bipush (v := 48) hx hb dX6_readSpeed_107 (by decide) ?_
              refine lv_iload_n hx hb dX6_readSpeed_109 rfl (lv_at hl 0 rfl) ?_
              refine dp_Vi hF hK hN (c_X6_takes l D G μ R S N E P B L1 L2 L3 sm kp th la (nI len) (nI (pz + 4)) (nI o) hs (pz + 4) len 48 57 _ hμ hM rfl rfl hq9.1 hl6) (cwV 2 hts gX6_readSpeed_X6_takes rfl rfl rfl (by decide +kernel) ⟨Nat.le_of_ble_eq_true rfl, Nat.le_of_ble_eq_true rfl⟩) (dp_recv hK hM.1 rfl) hS (fun q hq => hq) [] rfl rfl hl.1 (Nat.le_of_ble_eq_true rfl) dX6_readSpeed_110 ⟨Nat.le_of_ble_eq_true rfl, Nat.le_of_ble_eq_true rfl⟩ (fun rH27 H27 locs hp hzH27 hkH27 hS => ?_)
              rcases hp with ⟨rfl, hq10, hM⟩ | ⟨rfl, hq10, hM⟩
              · have hd10 : dfa B (pz + 5) = 16 := (df_s hd9).trans (by rw [nx11, bt_y hq10.2])
                refine lv_if_ne (tgt := 118) hx hb dX6_readSpeed_113 (by decide) (fun c28 => ?_) (fun c28 => absurd c28 (by decide))
                refine lv_aload_n hx hb dX6_readSpeed_118 rfl (lv_at hl 2 rfl) ?_
                refine dp_get hx hb hts (dp_hin 18 rfl) hown hK hM.1 rfl 15 (by decide) (hts (.fieldLink RX6 34 "DroopBoardModel" "second" "[I") (List.mem_of_getElem? (i := 1) rfl)) rfl dX6_readSpeed_119 ?_
                refine lv_aload_n hx hb dX6_readSpeed_122 rfl (lv_at hl 2 rfl) ?_
                refine dp_get hx hb hts (dp_hin 18 rfl) hown hK hM.1 rfl 12 (by decide) (hts (.fieldLink RX6 165 "DroopBoardModel" "orders" "I") (List.mem_of_getElem? (i := 2) rfl)) rfl dX6_readSpeed_123 ?_
                refine lv_sipush (v := 1000) hx hb dX6_readSpeed_126 (by decide) ?_
                refine lv_aload_n hx hb dX6_readSpeed_129 rfl (lv_at hl 2 rfl) ?_
                refine lv_iconst (v := 4) hx hb dX6_readSpeed_130 (by decide) ?_
                refine dp_Vi hF hK hN (c_X6_digit l D G μ R S N E P B L1 L2 L3 sm kp th la (nI len) (nI (pz + 5)) (nI o) hs (pz + 5) (pz + 1) 4 _ hμ hM rfl (by omega) (by omega) (by decide)) (cwV 1 hts gX6_readSpeed_X6_digit rfl rfl rfl (by decide +kernel) ⟨Nat.le_of_ble_eq_true rfl, Nat.le_of_ble_eq_true rfl⟩) (dp_recv hK hM.1 rfl) hS nA_i [.int 1000, .int (nI o), .ref (μ 9)] rfl rfl hl.1 (Nat.le_of_ble_eq_true rfl) dX6_readSpeed_131 ⟨Nat.le_of_ble_eq_true rfl, Nat.le_of_ble_eq_true rfl⟩ (fun rH28 H28 locs hp hzH28 hkH28 hS => ?_)
                obtain ⟨rfl, rfl⟩ := hp
                refine lv_imul hx hb dX6_readSpeed_134 ?_
                refine lv_bipush (v := 100) hx hb dX6_readSpeed_135 (by decide) ?_
                refine lv_aload_n hx hb dX6_readSpeed_137 rfl (lv_at hl 2 rfl) ?_
                refine lv_iconst (v := 3) hx hb dX6_readSpeed_138 (by decide) ?_
                refine dp_Vi hF hK hN (c_X6_digit l D G μ R S N E P B L1 L2 L3 sm kp th la (nI len) (nI (pz + 5)) (nI o) hs (pz + 5) (pz + 2) 3 _ hμ hM rfl (by omega) (by omega) (by decide)) (cwV 1 hts gX6_readSpeed_X6_digit rfl rfl rfl (by decide +kernel) ⟨Nat.le_of_ble_eq_true rfl, Nat.le_of_ble_eq_true rfl⟩) (dp_recv hK hM.1 rfl) hS nA_i [.int 100, .int (1000 * (B (pz + 1) - 48)), .int (nI o), .ref (μ 9)] rfl rfl hl.1 (Nat.le_of_ble_eq_true rfl) dX6_readSpeed_139 ⟨Nat.le_of_ble_eq_true rfl, Nat.le_of_ble_eq_true rfl⟩ (fun rH29 H29 locs hp hzH29 hkH29 hS => ?_)
                obtain ⟨rfl, rfl⟩ := hp
                refine lv_imul hx hb dX6_readSpeed_142 ?_
                refine lv_iadd hx hb dX6_readSpeed_143 ?_
                refine lv_bipush (v := 10) hx hb dX6_readSpeed_144 (by decide) ?_
                refine lv_aload_n hx hb dX6_readSpeed_146 rfl (lv_at hl 2 rfl) ?_
                refine lv_iconst (v := 2) hx hb dX6_readSpeed_147 (by decide) ?_
                refine dp_Vi hF hK hN (c_X6_digit l D G μ R S N E P B L1 L2 L3 sm kp th la (nI len) (nI (pz + 5)) (nI o) hs (pz + 5) (pz + 3) 2 _ hμ hM rfl (by omega) (by omega) (by decide)) (cwV 1 hts gX6_readSpeed_X6_digit rfl rfl rfl (by decide +kernel) ⟨Nat.le_of_ble_eq_true rfl, Nat.le_of_ble_eq_true rfl⟩) (dp_recv hK hM.1 rfl) hS nA_i [.int 10, .int ((1000 * (B (pz + 1) - 48)) + (100 * (B (pz + 2) - 48))), .int (nI o), .ref (μ 9)] rfl rfl hl.1 (Nat.le_of_ble_eq_true rfl) dX6_readSpeed_148 ⟨Nat.le_of_ble_eq_true rfl, Nat.le_of_ble_eq_true rfl⟩ (fun rH30 H30 locs hp hzH30 hkH30 hS => ?_)
                obtain ⟨rfl, rfl⟩ := hp
                refine lv_imul hx hb dX6_readSpeed_151 ?_
                refine lv_iadd hx hb dX6_readSpeed_152 ?_
                refine lv_aload_n hx hb dX6_readSpeed_153 rfl (lv_at hl 2 rfl) ?_
                refine lv_iconst (v := 1) hx hb dX6_readSpeed_154 (by decide) ?_
                refine dp_Vi hF hK hN (c_X6_digit l D G μ R S N E P B L1 L2 L3 sm kp th la (nI len) (nI (pz + 5)) (nI o) hs (pz + 5) (pz + 4) 1 _ hμ hM rfl (by omega) (by omega) (by decide)) (cwV 1 hts gX6_readSpeed_X6_digit rfl rfl rfl (by decide +kernel) ⟨Nat.le_of_ble_eq_true rfl, Nat.le_of_ble_eq_true rfl⟩) (dp_recv hK hM.1 rfl) hS nA_i [.int (((1000 * (B (pz + 1) - 48)) + (100 * (B (pz + 2) - 48))) + (10 * (B (pz + 3) - 48))), .int (nI o), .ref (μ 9)] rfl rfl hl.1 (Nat.le_of_ble_eq_true rfl) dX6_readSpeed_155 ⟨Nat.le_of_ble_eq_true rfl, Nat.le_of_ble_eq_true rfl⟩ (fun rH31 H31 locs hp hzH31 hkH31 hS => ?_)
                obtain ⟨rfl, rfl⟩ := hp
                refine lv_iadd hx hb dX6_readSpeed_158 ?_
                refine dp_iast (A := A6 μ) hx hb hK hM.2.2.2.2.2.2.2.2.2 (⟨9, by decide, rfl⟩ : A6 μ (μ 9)) hS 0 rfl o rfl (by omega) (by decide) dX6_readSpeed_159 (fun H32 locs hH32 hzH32 hkH32 hS => ?_)
                have hM := hM.a9 (X' := upd L3 o ((((1000 * (B (pz + 1) - 48)) + (100 * (B (pz + 2) - 48))) + (10 * (B (pz + 3) - 48))) + (B (pz + 4) - 48))) hμ hH32 hkH32
                refine lv_iconst (v := 1) hx hb dX6_readSpeed_160 (by decide) ?_
                obtain ⟨v9, hv9, ev, en⟩ := spd5 hq10.1 hv2 hv6.2 hq9.2 hq10.2
                exact W.zret (ty := .boolean) hx hb hr rfl (fun t ht hW => ⟨⟨1, H32, rfl, Or.inl ⟨rfl, hq10.1, hd10, no59_5 (c_not hq1.2 (Or.inl (by decide))) (by rw [hv2]; decide) (c_not hv6.2 (Or.inr (by decide))) (c_not hq9.2 (Or.inr (by decide))) (c_not hq10.2 (Or.inr (by decide))), v9, hv9, en, by rw [← ev]; exact hM⟩, ht⟩, hS.F ht⟩) hS.2.2 dX6_readSpeed_161
              · refine lv_if_ne (tgt := 118) hx hb dX6_readSpeed_113 (by decide) (fun c29 => absurd c29 (by decide)) (fun c29 => ?_)
                refine lv_iconst (v := 0) hx hb dX6_readSpeed_116 (by decide) ?_
                exact W.zret (ty := .boolean) hx hb hr rfl (fun t ht hW => ⟨⟨0, H27, rfl, Or.inr ⟨rfl, _, bad_n hd9 (by decide) (by decide) (by decide) hq9.1 hq10 (fun h => by rw [nx11, bt_n h]), hq9.1, hM⟩, ht⟩, hS.F ht⟩) hS.2.2 dX6_readSpeed_117
            · refine lv_if_eq (tgt := 116) hx hb dX6_readSpeed_103 (by decide) (fun c30 => ?_) (fun c30 => absurd (by decide) c30)
              refine lv_iconst (v := 0) hx hb dX6_readSpeed_116 (by decide) ?_
              exact W.zret (ty := .boolean) hx hb hr rfl (fun t ht hW => ⟨⟨0, H26, rfl, Or.inr ⟨rfl, _, bad_n hd6 (by decide) (by decide) (by decide) hq6.1 hq9 (fun h => by rw [nx10, bt_n h]), hq6.1, hM⟩, ht⟩, hS.F ht⟩) hS.2.2 dX6_readSpeed_117
        · refine lv_if_ne (tgt := 70) hx hb dX6_readSpeed_65 (by decide) (fun c31 => absurd c31 (by decide)) (fun c31 => ?_)
          refine lv_iconst (v := 0) hx hb dX6_readSpeed_68 (by decide) ?_
          exact W.zret (ty := .boolean) hx hb hr rfl (fun t ht hW => ⟨⟨0, H14, rfl, Or.inr ⟨rfl, _, bad_n hd2 (by decide) (by decide) (by decide) hq2.1 hq6 (fun h => n7_n h), hq2.1, hM⟩, ht⟩, hS.F ht⟩) hS.2.2 dX6_readSpeed_69
    · refine lv_if_ne (tgt := 24) hx hb dX6_readSpeed_19 (by decide) (fun c32 => absurd c32 (by decide)) (fun c32 => ?_)
      refine lv_iconst (v := 0) hx hb dX6_readSpeed_22 (by decide) ?_
      exact W.zret (ty := .boolean) hx hb hr rfl (fun t ht hW => ⟨⟨0, H2, rfl, Or.inr ⟨rfl, _, bad_n hd1 (by decide) (by decide) (by decide) hq1.1 hq2 (fun h => n5_n h), hq1.1, hM⟩, ht⟩, hS.F ht⟩) hS.2.2 dX6_readSpeed_23
  · refine lv_if_eq (tgt := 22) hx hb dX6_readSpeed_8 (by decide) (fun c33 => ?_) (fun c33 => absurd (by decide) c33)
    refine lv_iconst (v := 0) hx hb dX6_readSpeed_22 (by decide) ?_
    exact W.zret (ty := .boolean) hx hb hr rfl (fun t ht hW => ⟨⟨0, H1, rfl, Or.inr ⟨rfl, _, bad_n hd0 (by decide) (by decide) (by decide) hpl hq1 (fun h => by rw [nx4, bt_n h]), hpl, hM⟩, ht⟩, hS.F ht⟩) hS.2.2 dX6_readSpeed_23

set_option maxHeartbeats 600000 in
set_option maxRecDepth 100000 in
theorem c_X6_readTicks (l : Launch) (D : va_G) (G : Nat → ClassId) (μ : Nat → Nat) (R S N E P B L1 L2 L3 : Nat → Int32) (sm kp th la ln sp od : Int32) (hs : Int64) (pz len o : Nat) (H : Heap) (hμ : inj 10 μ) (hM : MO D G μ R S N E P B L1 L2 L3 sm kp th la ln sp od hs H) (hsp : sp = nI pz) (hln : ln = nI len) (hpl : pz ≤ len) (hl6 : len ≤ 60) (hod : od = nI o) (ho : o < 24) (hd0 : dfa B pz = 14) : Met l yX6_readTicks wsX6_readTicks ({ frames := 2, cells := 0, slots := 0, locals := 45 } : Room) (va_Pc [.ref (μ 0)] (CX D G H)) (QI (A6 μ) (fun r h => (1 = r ∧ ∃ (e t : Nat) (X2 : Nat → Int32), pz + 1 ≤ e ∧ e ≤ len ∧ fin B len e ∧ (∀ k, pz ≤ k → k < e → ¬ B k = 59) ∧ t ≤ 99 ∧ nmb B len pz (e - pz) = nI t ∧ X2 o = nI t ∧ (∀ k, ¬ k = o → X2 k = L2 k) ∧ MO D G μ R S N E P B L1 X2 L3 sm kp th la (nI len) (nI e) (nI o) hs h) ∨ (0 = r ∧ ∃ p2, bad B len p2 ∧ p2 ≤ len ∧ MO D G μ R S N E P B L1 L2 L3 sm kp th la (nI len) (nI p2) (nI o) hs h))) 0 0 (A6 μ) := by
  refine Met.ofW (cc := cX6_readTicks) (maxL := 1) (ret := (some .boolean)) (by decide) rfl ?_
  intro p e s m args below meth c s₁ B0 hml hv
  obtain ⟨rfl, rfl, hK, hN⟩ := hv
  have hx := B0.exec
  have hb := B0.bytes
  have hr := B0.returns
  have hts := atoms_spec (ws := wsX6_readTicks) B0.pre
  have hown : s.vm.findClass RX6 = some m.cls := findClass_of_methodNamed B0.named
  have hlocks := B0.notSynchronized
  have hF : CallFix p m c cX6_readTicks 1 s ([.ref (μ 0)] : List Value).toArray wsX6_readTicks RX6 := ⟨hx, hb, hml, hown, hts⟩
  have hS : va_S (A6 μ) s.heap s.heap [] := va_S.rf
  have hl := lv_entry ([.ref (μ 0)]) (n := 1) (Nat.le_of_ble_eq_true rfl)
  rw [lg_entry_eq]
  generalize (lg_sl ([.ref (μ 0)]) ++ List.replicate (1 - (lg_sl ([.ref (μ 0)])).length) Slot.unset).toArray = ls at hl ⊢
  have hl : lv_has ls 1 [(0, .ref (μ 0))] := hl
  subst hsp hln hod
  refine lv_aload_n hx hb dX6_readTicks_0 rfl (lv_at hl 0 rfl) ?_
  refine lv_bipush (v := 49) hx hb dX6_readTicks_1 (by decide) ?_
  refine lv_bipush (v := 57) hx hb dX6_readTicks_3 (by decide) ?_
  refine dp_Vi hF hK hN (c_X6_takes l D G μ R S N E P B L1 L2 L3 sm kp th la (nI len) (nI pz) (nI o) hs pz len 49 57 _ hμ hM rfl rfl hpl hl6) (cwV 2 hts gX6_readTicks_X6_takes rfl rfl rfl (by decide +kernel) ⟨Nat.le_of_ble_eq_true rfl, Nat.le_of_ble_eq_true rfl⟩) (dp_recv hK hM.1 rfl) hS (fun q hq => hq) [] rfl rfl hl.1 (Nat.le_of_ble_eq_true rfl) dX6_readTicks_5 ⟨Nat.le_of_ble_eq_true rfl, Nat.le_of_ble_eq_true rfl⟩ (fun rH1 H1 locs hp hzH1 hkH1 hS => ?_)
  rcases hp with ⟨rfl, hq1, hM⟩ | ⟨rfl, hq1, hM⟩
  · have hd1 : dfa B (pz + 1) = 15 := (df_s hd0).trans (by rw [nx14, bt_y hq1.2])
    refine lv_if_ne (tgt := 13) hx hb dX6_readTicks_8 (by decide) (fun c1 => ?_) (fun c1 => absurd c1 (by decide))
    refine lv_aload_n hx hb dX6_readTicks_13 rfl (lv_at hl 0 rfl) ?_
    refine dp_get hx hb hts (dp_hin 18 rfl) hown hK hM.1 rfl 14 (by decide) (hts (.fieldLink RX6 31 "DroopBoardModel" "first" "[I") (List.mem_of_getElem? (i := 1) rfl)) rfl dX6_readTicks_14 ?_
    refine lv_aload_n hx hb dX6_readTicks_17 rfl (lv_at hl 0 rfl) ?_
    refine dp_get hx hb hts (dp_hin 18 rfl) hown hK hM.1 rfl 12 (by decide) (hts (.fieldLink RX6 165 "DroopBoardModel" "orders" "I") (List.mem_of_getElem? (i := 2) rfl)) rfl dX6_readTicks_18 ?_
    refine lv_aload_n hx hb dX6_readTicks_21 rfl (lv_at hl 0 rfl) ?_
    refine lv_iconst (v := 1) hx hb dX6_readTicks_22 (by decide) ?_
    refine dp_Vi hF hK hN (c_X6_digit l D G μ R S N E P B L1 L2 L3 sm kp th la (nI len) (nI (pz + 1)) (nI o) hs (pz + 1) pz 1 _ hμ hM rfl (by omega) (by omega) (by decide)) (cwV 1 hts gX6_readTicks_X6_digit rfl rfl rfl (by decide +kernel) ⟨Nat.le_of_ble_eq_true rfl, Nat.le_of_ble_eq_true rfl⟩) (dp_recv hK hM.1 rfl) hS nA_i [.int (nI o), .ref (μ 8)] rfl rfl hl.1 (Nat.le_of_ble_eq_true rfl) dX6_readTicks_23 ⟨Nat.le_of_ble_eq_true rfl, Nat.le_of_ble_eq_true rfl⟩ (fun rH2 H2 locs hp hzH2 hkH2 hS => ?_)
    obtain ⟨rfl, rfl⟩ := hp
    refine dp_iast (A := A6 μ) hx hb hK hM.2.2.2.2.2.2.2.2.1 (⟨8, by decide, rfl⟩ : A6 μ (μ 8)) hS 0 rfl o rfl (by omega) (by decide) dX6_readTicks_26 (fun H3 locs hH3 hzH3 hkH3 hS => ?_)
    have hM := hM.a8 (X' := upd L2 o (B pz - 48)) hμ hH3 hkH3
    refine lv_aload_n hx hb dX6_readTicks_27 rfl (lv_at hl 0 rfl) ?_
    refine lv_bipush (v := 48) hx hb dX6_readTicks_28 (by decide) ?_
    refine lv_bipush (v := 57) hx hb dX6_readTicks_30 (by decide) ?_
    refine dp_Vi hF hK hN (c_X6_takes l D G μ R S N E P B L1 (upd L2 o (B pz - 48)) L3 sm kp th la (nI len) (nI (pz + 1)) (nI o) hs (pz + 1) len 48 57 _ hμ hM rfl rfl hq1.1 hl6) (cwV 2 hts gX6_readTicks_X6_takes rfl rfl rfl (by decide +kernel) ⟨Nat.le_of_ble_eq_true rfl, Nat.le_of_ble_eq_true rfl⟩) (dp_recv hK hM.1 rfl) hS (fun q hq => hq) [] rfl rfl hl.1 (Nat.le_of_ble_eq_true rfl) dX6_readTicks_32 ⟨Nat.le_of_ble_eq_true rfl, Nat.le_of_ble_eq_true rfl⟩ (fun rH4 H4 locs hp hzH4 hkH4 hS => ?_)
    rcases hp with ⟨rfl, hq2, hM⟩ | ⟨rfl, hq2, hM⟩
    · have hd2 : dfa B (pz + 2) = 16 := (df_s hd1).trans (by rw [nx15, if_neg (c_not hq2.2 (Or.inr (by decide))), bt_y hq2.2])
      refine lv_if_eq (tgt := 61) hx hb dX6_readTicks_35 (by decide) (fun c2 => absurd c2 (by decide)) (fun c2 => ?_)
      refine lv_aload_n hx hb dX6_readTicks_38 rfl (lv_at hl 0 rfl) ?_
      refine dp_get hx hb hts (dp_hin 18 rfl) hown hK hM.1 rfl 14 (by decide) (hts (.fieldLink RX6 31 "DroopBoardModel" "first" "[I") (List.mem_of_getElem? (i := 1) rfl)) rfl dX6_readTicks_39 ?_
      refine lv_aload_n hx hb dX6_readTicks_42 rfl (lv_at hl 0 rfl) ?_
      refine dp_get hx hb hts (dp_hin 18 rfl) hown hK hM.1 rfl 12 (by decide) (hts (.fieldLink RX6 165 "DroopBoardModel" "orders" "I") (List.mem_of_getElem? (i := 2) rfl)) rfl dX6_readTicks_43 ?_
      refine lv_bipush (v := 10) hx hb dX6_readTicks_46 (by decide) ?_
      refine lv_aload_n hx hb dX6_readTicks_48 rfl (lv_at hl 0 rfl) ?_
      refine lv_iconst (v := 2) hx hb dX6_readTicks_49 (by decide) ?_
      refine dp_Vi hF hK hN (c_X6_digit l D G μ R S N E P B L1 (upd L2 o (B pz - 48)) L3 sm kp th la (nI len) (nI (pz + 2)) (nI o) hs (pz + 2) pz 2 _ hμ hM rfl (by omega) (by omega) (by decide)) (cwV 1 hts gX6_readTicks_X6_digit rfl rfl rfl (by decide +kernel) ⟨Nat.le_of_ble_eq_true rfl, Nat.le_of_ble_eq_true rfl⟩) (dp_recv hK hM.1 rfl) hS nA_i [.int 10, .int (nI o), .ref (μ 8)] rfl rfl hl.1 (Nat.le_of_ble_eq_true rfl) dX6_readTicks_50 ⟨Nat.le_of_ble_eq_true rfl, Nat.le_of_ble_eq_true rfl⟩ (fun rH5 H5 locs hp hzH5 hkH5 hS => ?_)
      obtain ⟨rfl, rfl⟩ := hp
      refine lv_imul hx hb dX6_readTicks_53 ?_
      refine lv_aload_n hx hb dX6_readTicks_54 rfl (lv_at hl 0 rfl) ?_
      refine lv_iconst (v := 1) hx hb dX6_readTicks_55 (by decide) ?_
      refine dp_Vi hF hK hN (c_X6_digit l D G μ R S N E P B L1 (upd L2 o (B pz - 48)) L3 sm kp th la (nI len) (nI (pz + 2)) (nI o) hs (pz + 2) (pz + 1) 1 _ hμ hM rfl (by omega) (by omega) (by decide)) (cwV 1 hts gX6_readTicks_X6_digit rfl rfl rfl (by decide +kernel) ⟨Nat.le_of_ble_eq_true rfl, Nat.le_of_ble_eq_true rfl⟩) (dp_recv hK hM.1 rfl) hS nA_i [.int (10 * (B pz - 48)), .int (nI o), .ref (μ 8)] rfl rfl hl.1 (Nat.le_of_ble_eq_true rfl) dX6_readTicks_56 ⟨Nat.le_of_ble_eq_true rfl, Nat.le_of_ble_eq_true rfl⟩ (fun rH6 H6 locs hp hzH6 hkH6 hS => ?_)
      obtain ⟨rfl, rfl⟩ := hp
      refine lv_iadd hx hb dX6_readTicks_59 ?_
      refine dp_iast (A := A6 μ) hx hb hK hM.2.2.2.2.2.2.2.2.1 (⟨8, by decide, rfl⟩ : A6 μ (μ 8)) hS 0 rfl o rfl (by omega) (by decide) dX6_readTicks_60 (fun H7 locs hH7 hzH7 hkH7 hS => ?_)
      have hM := hM.a8 (X' := upd (upd L2 o (B pz - 48)) o ((10 * (B pz - 48)) + (B (pz + 1) - 48))) hμ hH7 hkH7
      refine lv_iconst (v := 1) hx hb dX6_readTicks_61 (by decide) ?_
      obtain ⟨t9, ht9, et, en⟩ := tck2 hq2.1 hq1.2 hq2.2
      exact W.zret (ty := .boolean) hx hb hr rfl (fun t ht hW => ⟨⟨1, H7, rfl, Or.inl ⟨rfl, pz + 2, t9, _, by omega, hq2.1, Or.inl hd2, (fun k h1 h2 => (show k = pz ∨ k = pz + 1 by omega).elim (fun q => by rw [q]; exact c_not hq1.2 (Or.inr (by decide))) (fun q => by rw [q]; exact c_not hq2.2 (Or.inr (by decide)))), ht9, by rw [show pz + 2 - pz = 2 by omega]; exact en, by rw [← et]; exact upd_eq, (fun k q => by rw [upd_ne q, upd_ne q]), hM⟩, ht⟩, hS.F ht⟩) hS.2.2 dX6_readTicks_62
    · refine lv_if_eq (tgt := 61) hx hb dX6_readTicks_35 (by decide) (fun c3 => ?_) (fun c3 => absurd (by decide) c3)
      refine lv_iconst (v := 1) hx hb dX6_readTicks_61 (by decide) ?_
      obtain ⟨t9, ht9, et, en⟩ := tck1 hq1.1 hq1.2
      exact W.zret (ty := .boolean) hx hb hr rfl (fun t ht hW => ⟨⟨1, H4, rfl, Or.inl ⟨rfl, pz + 1, t9, _, by omega, hq1.1, Or.inr ⟨hd1, hq2⟩, (fun k h1 h2 => by rw [show k = pz by omega]; exact c_not hq1.2 (Or.inr (by decide))), ht9, by rw [show pz + 1 - pz = 1 by omega]; exact en, by rw [← et]; exact upd_eq, (fun k q => upd_ne q), hM⟩, ht⟩, hS.F ht⟩) hS.2.2 dX6_readTicks_62
  · refine lv_if_ne (tgt := 13) hx hb dX6_readTicks_8 (by decide) (fun c4 => absurd c4 (by decide)) (fun c4 => ?_)
    refine lv_iconst (v := 0) hx hb dX6_readTicks_11 (by decide) ?_
    exact W.zret (ty := .boolean) hx hb hr rfl (fun t ht hW => ⟨⟨0, H1, rfl, Or.inr ⟨rfl, _, bad_n hd0 (by decide) (by decide) (by decide) hpl hq1 (fun h => by rw [nx14, bt_n h]), hpl, hM⟩, ht⟩, hS.F ht⟩) hS.2.2 dX6_readTicks_12
