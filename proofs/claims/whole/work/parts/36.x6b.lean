set_option maxHeartbeats 600000 in
set_option maxRecDepth 100000 in
theorem c_X6_reason (l : Launch) (D : va_G) (G : Nat → ClassId) (μ : Nat → Nat) (R S N E P B L1 L2 L3 : Nat → Int32) (sm kp th la ln sp od : Int32) (hs : Int64) (j : Nat) (H : Heap) (hμ : inj 10 μ) (hM : MO D G μ R S N E P B L1 L2 L3 sm kp th la ln sp od hs H) (hwz : wz R) (hj : j < 3) : Met l yX6_reason wsX6_reason ({ frames := 5, cells := 0, slots := 0, locals := 107 } : Room) (va_Pc [.ref (μ 0), .int (nI j)] (CX D G H)) (QI nA (fun r h => H = h ∧ rsn R j = r)) 0 0 (nA) := by
  refine Met.ofW (cc := cX6_reason) (maxL := 2) (ret := (some .int)) (by decide) rfl ?_
  intro p e s m args below meth c s₁ B0 hml hv
  obtain ⟨rfl, rfl, hK, hN⟩ := hv
  have hx := B0.exec
  have hb := B0.bytes
  have hr := B0.returns
  have hts := atoms_spec (ws := wsX6_reason) B0.pre
  have hown : s.vm.findClass RX6 = some m.cls := findClass_of_methodNamed B0.named
  have hlocks := B0.notSynchronized
  have hF : CallFix p m c cX6_reason 2 s ([.ref (μ 0), .int (nI j)] : List Value).toArray wsX6_reason RX6 := ⟨hx, hb, hml, hown, hts⟩
  have hS : va_S (nA) s.heap s.heap [] := va_S.rf
  have hl := lv_entry ([.ref (μ 0), .int (nI j)]) (n := 2) (Nat.le_of_ble_eq_true rfl)
  rw [lg_entry_eq]
  generalize (lg_sl ([.ref (μ 0), .int (nI j)]) ++ List.replicate (2 - (lg_sl ([.ref (μ 0), .int (nI j)])).length) Slot.unset).toArray = ls at hl ⊢
  have hl : lv_has ls 2 [(0, .ref (μ 0)), (1, .int (nI j))] := hl
  refine lv_aload_n hx hb dX6_reason_0 rfl (lv_at hl 0 rfl) ?_
  refine lv_iload_n hx hb dX6_reason_1 rfl (lv_at hl 1 rfl) ?_
  refine lv_iconst (v := 3) hx hb dX6_reason_2 (by decide) ?_
  refine dp_Vi hF hK hN (c_X6_of l D G μ R S N E P B L1 L2 L3 sm kp th la ln sp od hs j 3 11 _ hμ hM (by omega) (by decide) rfl) (cwV 2 hts gX6_reason_X6_of rfl rfl rfl (by decide +kernel) ⟨Nat.le_of_ble_eq_true rfl, Nat.le_of_ble_eq_true rfl⟩) (dp_recv hK hM.1 rfl) hS nA_i [] rfl rfl hl.1 (Nat.le_of_ble_eq_true rfl) dX6_reason_3 ⟨Nat.le_of_ble_eq_true rfl, Nat.le_of_ble_eq_true rfl⟩ (fun rH1 H1 locs hp hzH1 hkH1 hS => ?_)
  obtain ⟨rfl, rfl⟩ := hp
  refine lv_if_ne (tgt := 11) hx hb dX6_reason_6 (by decide) (fun c1 => ?_) (fun c1 => ?_)
  · refine lv_aload_n hx hb dX6_reason_11 rfl (lv_at hl 0 rfl) ?_
    refine lv_iload_n hx hb dX6_reason_12 rfl (lv_at hl 1 rfl) ?_
    refine lv_iconst (v := 4) hx hb dX6_reason_13 (by decide) ?_
    refine dp_Vi hF hK hN (c_X6_of l D G μ R S N E P B L1 L2 L3 sm kp th la ln sp od hs j 4 12 _ hμ hM (by omega) (by decide) rfl) (cwV 2 hts gX6_reason_X6_of rfl rfl rfl (by decide +kernel) ⟨Nat.le_of_ble_eq_true rfl, Nat.le_of_ble_eq_true rfl⟩) (dp_recv hK hM.1 rfl) hS nA_i [] rfl rfl hl.1 (Nat.le_of_ble_eq_true rfl) dX6_reason_14 ⟨Nat.le_of_ble_eq_true rfl, Nat.le_of_ble_eq_true rfl⟩ (fun rH2 H2 locs hp hzH2 hkH2 hS => ?_)
    obtain ⟨rfl, rfl⟩ := hp
    refine lv_iconst (v := 1) hx hb dX6_reason_17 (by decide) ?_
    refine lv_icmp_ne (tgt := 23) hx hb dX6_reason_18 (by decide) (fun c2 => ?_) (fun c2 => ?_)
    · have h12 : R (12 + 10 * j) = 0 := (hwz.1.1 j hj).2.resolve_right c2
      refine lv_aload_n hx hb dX6_reason_23 rfl (lv_at hl 0 rfl) ?_
      refine dp_Vi hF hK hN (c_X6_isAlive l D G μ R S N E P B L1 L2 L3 sm kp th la ln sp od hs  _ hμ hM hwz.1) (cwV 0 hts gX6_reason_X6_isAlive rfl rfl rfl (by decide +kernel) ⟨Nat.le_of_ble_eq_true rfl, Nat.le_of_ble_eq_true rfl⟩) (dp_recv hK hM.1 rfl) hS nA_i [] rfl rfl hl.1 (Nat.le_of_ble_eq_true rfl) dX6_reason_24 ⟨Nat.le_of_ble_eq_true rfl, Nat.le_of_ble_eq_true rfl⟩ (fun rH3 H3 locs hp hzH3 hkH3 hS => ?_)
      obtain ⟨rfl, rfl⟩ := hp
      refine lv_if_eq (tgt := 55) hx hb dX6_reason_27 (by decide) (fun c3 => ?_) (fun c3 => ?_)
      · refine lv_aload_n hx hb dX6_reason_55 rfl (lv_at hl 0 rfl) ?_
        refine dp_Vi hF hK hN (c_X6_isAlive l D G μ R S N E P B L1 L2 L3 sm kp th la ln sp od hs  _ hμ hM hwz.1) (cwV 0 hts gX6_reason_X6_isAlive rfl rfl rfl (by decide +kernel) ⟨Nat.le_of_ble_eq_true rfl, Nat.le_of_ble_eq_true rfl⟩) (dp_recv hK hM.1 rfl) hS nA_i [] rfl rfl hl.1 (Nat.le_of_ble_eq_true rfl) dX6_reason_56 ⟨Nat.le_of_ble_eq_true rfl, Nat.le_of_ble_eq_true rfl⟩ (fun rH4 H4 locs hp hzH4 hkH4 hS => ?_)
        obtain ⟨rfl, rfl⟩ := hp
        refine lv_if_eq (tgt := 84) hx hb dX6_reason_59 (by decide) (fun c4 => ?_) (fun c4 => absurd c3 c4)
        refine lv_iconst (v := 0) hx hb dX6_reason_84 (by decide) ?_
        exact W.iret hx hb hr (fun t ht hW => ⟨⟨0, s.heap, rfl, ⟨rfl, by simp [rsn, c1, c2, c3, h12]⟩, ht⟩, hS.F ht⟩) hS.2.2 dX6_reason_85
      refine lv_aload_n hx hb dX6_reason_30 rfl (lv_at hl 0 rfl) ?_
      refine lv_iload_n hx hb dX6_reason_31 rfl (lv_at hl 1 rfl) ?_
      refine lv_iconst (v := 2) hx hb dX6_reason_32 (by decide) ?_
      refine dp_Vi hF hK hN (c_X6_of l D G μ R S N E P B L1 L2 L3 sm kp th la ln sp od hs j 2 10 _ hμ hM (by omega) (by decide) rfl) (cwV 2 hts gX6_reason_X6_of rfl rfl rfl (by decide +kernel) ⟨Nat.le_of_ble_eq_true rfl, Nat.le_of_ble_eq_true rfl⟩) (dp_recv hK hM.1 rfl) hS nA_i [] rfl rfl hl.1 (Nat.le_of_ble_eq_true rfl) dX6_reason_33 ⟨Nat.le_of_ble_eq_true rfl, Nat.le_of_ble_eq_true rfl⟩ (fun rH5 H5 locs hp hzH5 hkH5 hS => ?_)
      obtain ⟨rfl, rfl⟩ := hp
      refine lv_aload_n hx hb dX6_reason_36 rfl (lv_at hl 0 rfl) ?_
      refine dp_Vi hF hK hN (c_X6_frequency l D G μ R S N E P B L1 L2 L3 sm kp th la ln sp od hs  _ hμ hM hwz) (cwV 0 hts gX6_reason_X6_frequency rfl rfl rfl (by decide +kernel) ⟨Nat.le_of_ble_eq_true rfl, Nat.le_of_ble_eq_true rfl⟩) (dp_recv hK hM.1 rfl) hS nA_i [.int (R (10 + 10 * j))] rfl rfl hl.1 (Nat.le_of_ble_eq_true rfl) dX6_reason_37 ⟨Nat.le_of_ble_eq_true rfl, Nat.le_of_ble_eq_true rfl⟩ (fun rH6 H6 locs hp hzH6 hkH6 hS => ?_)
      obtain ⟨rfl, rfl⟩ := hp
      refine lv_isub hx hb dX6_reason_40 ?_
      refine dp_Si hF hK hN (c_X6_size l D G ((R (10 + 10 * j)) - (fq R)) _) (va_cwS 1 hts gX6_reason_X6_size rfl rfl rfl (by decide +kernel) ⟨Nat.le_of_ble_eq_true rfl, Nat.le_of_ble_eq_true rfl⟩) hS nA_i [] rfl rfl hl.1 (Nat.le_of_ble_eq_true rfl) dX6_reason_41 ⟨Nat.le_of_ble_eq_true rfl, Nat.le_of_ble_eq_true rfl⟩ (fun rH7 H7 locs hp hzH7 hkH7 hS => ?_)
      obtain ⟨rfl, rfl⟩ := hp
      refine lv_aload_n hx hb dX6_reason_44 rfl (lv_at hl 0 rfl) ?_
      refine dp_get hx hb hts (dp_hin 41 rfl) hown hK hM.1 rfl 0 (by decide) (hts (.fieldLink RX6 7 "DroopBoardModel" "row" "[I") (List.mem_of_getElem? (i := 1) rfl)) rfl dX6_reason_45 ?_
      refine lv_iconst (v := 2) hx hb dX6_reason_48 (by decide) ?_
      refine dp_iald hx hb hK hM.2.1 0 rfl 2 rfl (by decide) (by decide) dX6_reason_49 ?_
      refine lv_icmp_le (tgt := 55) hx hb dX6_reason_50 (by decide) (fun c5 => ?_) (fun c5 => ?_)
      · refine lv_aload_n hx hb dX6_reason_55 rfl (lv_at hl 0 rfl) ?_
        refine dp_Vi hF hK hN (c_X6_isAlive l D G μ R S N E P B L1 L2 L3 sm kp th la ln sp od hs  _ hμ hM hwz.1) (cwV 0 hts gX6_reason_X6_isAlive rfl rfl rfl (by decide +kernel) ⟨Nat.le_of_ble_eq_true rfl, Nat.le_of_ble_eq_true rfl⟩) (dp_recv hK hM.1 rfl) hS nA_i [] rfl rfl hl.1 (Nat.le_of_ble_eq_true rfl) dX6_reason_56 ⟨Nat.le_of_ble_eq_true rfl, Nat.le_of_ble_eq_true rfl⟩ (fun rH8 H8 locs hp hzH8 hkH8 hS => ?_)
        obtain ⟨rfl, rfl⟩ := hp
        refine lv_if_eq (tgt := 84) hx hb dX6_reason_59 (by decide) (fun c6 => absurd c6 c3) (fun c6 => ?_)
        refine lv_aload_n hx hb dX6_reason_62 rfl (lv_at hl 0 rfl) ?_
        refine lv_iload_n hx hb dX6_reason_63 rfl (lv_at hl 1 rfl) ?_
        refine lv_iconst (v := 5) hx hb dX6_reason_64 (by decide) ?_
        refine dp_Vi hF hK hN (c_X6_of l D G μ R S N E P B L1 L2 L3 sm kp th la ln sp od hs j 5 13 _ hμ hM (by omega) (by decide) rfl) (cwV 2 hts gX6_reason_X6_of rfl rfl rfl (by decide +kernel) ⟨Nat.le_of_ble_eq_true rfl, Nat.le_of_ble_eq_true rfl⟩) (dp_recv hK hM.1 rfl) hS nA_i [] rfl rfl hl.1 (Nat.le_of_ble_eq_true rfl) dX6_reason_65 ⟨Nat.le_of_ble_eq_true rfl, Nat.le_of_ble_eq_true rfl⟩ (fun rH9 H9 locs hp hzH9 hkH9 hS => ?_)
        obtain ⟨rfl, rfl⟩ := hp
        refine dp_Si hF hK hN (c_X6_lamps l D G (R (13 + 10 * j)) _) (va_cwS 1 hts gX6_reason_X6_lamps rfl rfl rfl (by decide +kernel) ⟨Nat.le_of_ble_eq_true rfl, Nat.le_of_ble_eq_true rfl⟩) hS nA_i [] rfl rfl hl.1 (Nat.le_of_ble_eq_true rfl) dX6_reason_68 ⟨Nat.le_of_ble_eq_true rfl, Nat.le_of_ble_eq_true rfl⟩ (fun rH10 H10 locs hp hzH10 hkH10 hS => ?_)
        obtain ⟨rfl, rfl⟩ := hp
        refine lv_aload_n hx hb dX6_reason_71 rfl (lv_at hl 0 rfl) ?_
        refine dp_get hx hb hts (dp_hin 41 rfl) hown hK hM.1 rfl 0 (by decide) (hts (.fieldLink RX6 7 "DroopBoardModel" "row" "[I") (List.mem_of_getElem? (i := 1) rfl)) rfl dX6_reason_72 ?_
        refine lv_iconst (v := 3) hx hb dX6_reason_75 (by decide) ?_
        refine dp_iald hx hb hK hM.2.1 0 rfl 3 rfl (by decide) (by decide) dX6_reason_76 ?_
        refine lv_icmp_le (tgt := 84) hx hb dX6_reason_77 (by decide) (fun c7 => ?_) (fun c7 => ?_)
        · refine lv_iconst (v := 0) hx hb dX6_reason_84 (by decide) ?_
          exact W.iret hx hb hr (fun t ht hW => ⟨⟨0, s.heap, rfl, ⟨rfl, by simp [rsn, c1, c2, c3, c5, c7, h12]⟩, ht⟩, hS.F ht⟩) hS.2.2 dX6_reason_85
        refine lv_iconst (v := 4) hx hb dX6_reason_80 (by decide) ?_
        refine lv_goto (tgt := 85) hx hb dX6_reason_81 (by decide) ?_
        exact W.iret hx hb hr (fun t ht hW => ⟨⟨4, s.heap, rfl, ⟨rfl, by simp [rsn, c1, c2, c3, c5, c7, h12]⟩, ht⟩, hS.F ht⟩) hS.2.2 dX6_reason_85
      refine lv_iconst (v := 3) hx hb dX6_reason_53 (by decide) ?_
      exact W.iret hx hb hr (fun t ht hW => ⟨⟨3, s.heap, rfl, ⟨rfl, by simp [rsn, c1, c2, c3, c5, h12]⟩, ht⟩, hS.F ht⟩) hS.2.2 dX6_reason_54
    refine lv_iconst (v := 2) hx hb dX6_reason_21 (by decide) ?_
    exact W.iret hx hb hr (fun t ht hW => ⟨⟨2, s.heap, rfl, ⟨rfl, by simp [rsn, c1, c2]⟩, ht⟩, hS.F ht⟩) hS.2.2 dX6_reason_22
  refine lv_iconst (v := 1) hx hb dX6_reason_9 (by decide) ?_
  exact W.iret hx hb hr (fun t ht hW => ⟨⟨1, s.heap, rfl, ⟨rfl, by simp [rsn, c1]⟩, ht⟩, hS.F ht⟩) hS.2.2 dX6_reason_10

set_option maxHeartbeats 600000 in
set_option maxRecDepth 100000 in
theorem c_X6_rest (l : Launch) (D : va_G) (G : Nat → ClassId) (μ : Nat → Nat) (R S N E P B L1 L2 L3 : Nat → Int32) (sm kp th la ln sp od : Int32) (hs : Int64) (j : Nat) (H : Heap) (hμ : inj 10 μ) (hM : MO D G μ R S N E P B L1 L2 L3 sm kp th la ln sp od hs H) (hj : j < 3) : Met l yX6_rest wsX6_rest ({ frames := 1, cells := 0, slots := 0, locals := 23 } : Room) (va_Pc [.ref (μ 0), .int (nI j)] (CX D G H)) (QV (A6 μ) (fun h => MO D G μ (rst R j) S N E P B L1 L2 L3 sm kp th la ln sp od hs h)) 0 0 (A6 μ) := by
  refine Met.ofW (cc := cX6_rest) (maxL := 2) (ret := none) (by decide) rfl ?_
  intro p e s m args below meth c s₁ B0 hml hv
  obtain ⟨rfl, rfl, hK, hN⟩ := hv
  have hx := B0.exec
  have hb := B0.bytes
  have hr := B0.returns
  have hts := atoms_spec (ws := wsX6_rest) B0.pre
  have hown : s.vm.findClass RX6 = some m.cls := findClass_of_methodNamed B0.named
  have hlocks := B0.notSynchronized
  have hF : CallFix p m c cX6_rest 2 s ([.ref (μ 0), .int (nI j)] : List Value).toArray wsX6_rest RX6 := ⟨hx, hb, hml, hown, hts⟩
  have hS : va_S (A6 μ) s.heap s.heap [] := va_S.rf
  have hl := lv_entry ([.ref (μ 0), .int (nI j)]) (n := 2) (Nat.le_of_ble_eq_true rfl)
  rw [lg_entry_eq]
  generalize (lg_sl ([.ref (μ 0), .int (nI j)]) ++ List.replicate (2 - (lg_sl ([.ref (μ 0), .int (nI j)])).length) Slot.unset).toArray = ls at hl ⊢
  have hl : lv_has ls 2 [(0, .ref (μ 0)), (1, .int (nI j))] := hl
  refine lv_aload_n hx hb dX6_rest_0 rfl (lv_at hl 0 rfl) ?_
  refine lv_iload_n hx hb dX6_rest_1 rfl (lv_at hl 1 rfl) ?_
  refine lv_iconst (v := 5) hx hb dX6_rest_2 (by decide) ?_
  refine lv_iconst (v := 0) hx hb dX6_rest_3 (by decide) ?_
  refine dp_Vv hF hK hN (c_X6_put l D G μ R S N E P B L1 L2 L3 sm kp th la ln sp od hs j 5 13 0 _ hμ hM (by omega) (by decide) rfl) (cwV 3 hts gX6_rest_X6_put rfl rfl rfl (by decide +kernel) ⟨Nat.le_of_ble_eq_true rfl, Nat.le_of_ble_eq_true rfl⟩) (dp_recv hK hM.1 rfl) hS (fun q hq => hq) [] rfl rfl hl.1 (Nat.le_of_ble_eq_true rfl) dX6_rest_4 ⟨Nat.le_of_ble_eq_true rfl, Nat.le_of_ble_eq_true rfl⟩ (fun H1 locs hp hzH1 hkH1 hS => ?_)
  have hM := hp
  refine lv_aload_n hx hb dX6_rest_7 rfl (lv_at hl 0 rfl) ?_
  refine lv_iload_n hx hb dX6_rest_8 rfl (lv_at hl 1 rfl) ?_
  refine lv_bipush (v := 6) hx hb dX6_rest_9 (by decide) ?_
  refine lv_iconst (v := 0) hx hb dX6_rest_11 (by decide) ?_
  refine dp_Vv hF hK hN (c_X6_put l D G μ (upd R (13 + 10 * j) 0) S N E P B L1 L2 L3 sm kp th la ln sp od hs j 6 14 0 _ hμ hM (by omega) (by decide) rfl) (cwV 3 hts gX6_rest_X6_put rfl rfl rfl (by decide +kernel) ⟨Nat.le_of_ble_eq_true rfl, Nat.le_of_ble_eq_true rfl⟩) (dp_recv hK hM.1 rfl) hS (fun q hq => hq) [] rfl rfl hl.1 (Nat.le_of_ble_eq_true rfl) dX6_rest_12 ⟨Nat.le_of_ble_eq_true rfl, Nat.le_of_ble_eq_true rfl⟩ (fun H2 locs hp hzH2 hkH2 hS => ?_)
  have hM := hp
  refine lv_aload_n hx hb dX6_rest_15 rfl (lv_at hl 0 rfl) ?_
  refine lv_iload_n hx hb dX6_rest_16 rfl (lv_at hl 1 rfl) ?_
  refine lv_bipush (v := 7) hx hb dX6_rest_17 (by decide) ?_
  refine lv_iconst (v := 0) hx hb dX6_rest_19 (by decide) ?_
  refine dp_Vv hF hK hN (c_X6_put l D G μ (upd (upd R (13 + 10 * j) 0) (14 + 10 * j) 0) S N E P B L1 L2 L3 sm kp th la ln sp od hs j 7 15 0 _ hμ hM (by omega) (by decide) rfl) (cwV 3 hts gX6_rest_X6_put rfl rfl rfl (by decide +kernel) ⟨Nat.le_of_ble_eq_true rfl, Nat.le_of_ble_eq_true rfl⟩) (dp_recv hK hM.1 rfl) hS (fun q hq => hq) [] rfl rfl hl.1 (Nat.le_of_ble_eq_true rfl) dX6_rest_20 ⟨Nat.le_of_ble_eq_true rfl, Nat.le_of_ble_eq_true rfl⟩ (fun H3 locs hp hzH3 hkH3 hS => ?_)
  have hM := hp
  exact W.vret hx hb hr (fun t ht hW => ⟨⟨H3, rfl, hM, ht⟩, hS.F ht⟩) hS.2.2 dX6_rest_23

set_option maxHeartbeats 600000 in
set_option maxRecDepth 100000 in
theorem c_X6_canHalt (l : Launch) (D : va_G) (G : Nat → ClassId) (μ : Nat → Nat) (R S N E P B L1 L2 L3 : Nat → Int32) (sm kp th la ln sp od : Int32) (hs : Int64) (j : Nat) (H : Heap) (hμ : inj 10 μ) (hM : MO D G μ R S N E P B L1 L2 L3 sm kp th la ln sp od hs H) (hj : j < 3) : Met l yX6_canHalt wsX6_canHalt ({ frames := 1, cells := 0, slots := 0, locals := 22 } : Room) (va_Pc [.ref (μ 0), .int (nI j)] (CX D G H)) (QI nA (fun r h => H = h ∧ (if R (11 + 10 * j) = 1 then (if R (12 + 10 * j) = 0 then 1 else 0) else 0) = r)) 0 0 (nA) := by
  refine Met.ofW (cc := cX6_canHalt) (maxL := 2) (ret := (some .boolean)) (by decide) rfl ?_
  intro p e s m args below meth c s₁ B0 hml hv
  obtain ⟨rfl, rfl, hK, hN⟩ := hv
  have hx := B0.exec
  have hb := B0.bytes
  have hr := B0.returns
  have hts := atoms_spec (ws := wsX6_canHalt) B0.pre
  have hown : s.vm.findClass RX6 = some m.cls := findClass_of_methodNamed B0.named
  have hlocks := B0.notSynchronized
  have hF : CallFix p m c cX6_canHalt 2 s ([.ref (μ 0), .int (nI j)] : List Value).toArray wsX6_canHalt RX6 := ⟨hx, hb, hml, hown, hts⟩
  have hS : va_S (nA) s.heap s.heap [] := va_S.rf
  have hl := lv_entry ([.ref (μ 0), .int (nI j)]) (n := 2) (Nat.le_of_ble_eq_true rfl)
  rw [lg_entry_eq]
  generalize (lg_sl ([.ref (μ 0), .int (nI j)]) ++ List.replicate (2 - (lg_sl ([.ref (μ 0), .int (nI j)])).length) Slot.unset).toArray = ls at hl ⊢
  have hl : lv_has ls 2 [(0, .ref (μ 0)), (1, .int (nI j))] := hl
  refine lv_aload_n hx hb dX6_canHalt_0 rfl (lv_at hl 0 rfl) ?_
  refine lv_iload_n hx hb dX6_canHalt_1 rfl (lv_at hl 1 rfl) ?_
  refine lv_iconst (v := 3) hx hb dX6_canHalt_2 (by decide) ?_
  refine dp_Vi hF hK hN (c_X6_of l D G μ R S N E P B L1 L2 L3 sm kp th la ln sp od hs j 3 11 _ hμ hM (by omega) (by decide) rfl) (cwV 2 hts gX6_canHalt_X6_of rfl rfl rfl (by decide +kernel) ⟨Nat.le_of_ble_eq_true rfl, Nat.le_of_ble_eq_true rfl⟩) (dp_recv hK hM.1 rfl) hS nA_i [] rfl rfl hl.1 (Nat.le_of_ble_eq_true rfl) dX6_canHalt_3 ⟨Nat.le_of_ble_eq_true rfl, Nat.le_of_ble_eq_true rfl⟩ (fun rH1 H1 locs hp hzH1 hkH1 hS => ?_)
  obtain ⟨rfl, rfl⟩ := hp
  refine lv_iconst (v := 1) hx hb dX6_canHalt_6 (by decide) ?_
  refine lv_icmp_ne (tgt := 23) hx hb dX6_canHalt_7 (by decide) (fun c1 => ?_) (fun c1 => ?_)
  · refine lv_iconst (v := 0) hx hb dX6_canHalt_23 (by decide) ?_
    exact W.zret (ty := .boolean) hx hb hr rfl (fun t ht hW => ⟨⟨0, s.heap, rfl, ⟨rfl, by simp [c1]⟩, ht⟩, hS.F ht⟩) hS.2.2 dX6_canHalt_24
  refine lv_aload_n hx hb dX6_canHalt_10 rfl (lv_at hl 0 rfl) ?_
  refine lv_iload_n hx hb dX6_canHalt_11 rfl (lv_at hl 1 rfl) ?_
  refine lv_iconst (v := 4) hx hb dX6_canHalt_12 (by decide) ?_
  refine dp_Vi hF hK hN (c_X6_of l D G μ R S N E P B L1 L2 L3 sm kp th la ln sp od hs j 4 12 _ hμ hM (by omega) (by decide) rfl) (cwV 2 hts gX6_canHalt_X6_of rfl rfl rfl (by decide +kernel) ⟨Nat.le_of_ble_eq_true rfl, Nat.le_of_ble_eq_true rfl⟩) (dp_recv hK hM.1 rfl) hS nA_i [] rfl rfl hl.1 (Nat.le_of_ble_eq_true rfl) dX6_canHalt_13 ⟨Nat.le_of_ble_eq_true rfl, Nat.le_of_ble_eq_true rfl⟩ (fun rH2 H2 locs hp hzH2 hkH2 hS => ?_)
  obtain ⟨rfl, rfl⟩ := hp
  refine lv_if_ne (tgt := 23) hx hb dX6_canHalt_16 (by decide) (fun c2 => ?_) (fun c2 => ?_)
  · refine lv_iconst (v := 0) hx hb dX6_canHalt_23 (by decide) ?_
    exact W.zret (ty := .boolean) hx hb hr rfl (fun t ht hW => ⟨⟨0, s.heap, rfl, ⟨rfl, by simp [c1, c2]⟩, ht⟩, hS.F ht⟩) hS.2.2 dX6_canHalt_24
  refine lv_iconst (v := 1) hx hb dX6_canHalt_19 (by decide) ?_
  refine lv_goto (tgt := 24) hx hb dX6_canHalt_20 (by decide) ?_
  exact W.zret (ty := .boolean) hx hb hr rfl (fun t ht hW => ⟨⟨1, s.heap, rfl, ⟨rfl, by simp [c1, c2]⟩, ht⟩, hS.F ht⟩) hS.2.2 dX6_canHalt_24

set_option maxHeartbeats 600000 in
set_option maxRecDepth 100000 in
theorem c_X6_speedNow (l : Launch) (D : va_G) (G : Nat → ClassId) (μ : Nat → Nat) (R S N E P B L1 L2 L3 : Nat → Int32) (sm kp th la ln sp od : Int32) (hs : Int64) (j : Nat) (x : Int32) (H : Heap) (hμ : inj 10 μ) (hM : MO D G μ R S N E P B L1 L2 L3 sm kp th la ln sp od hs H) (hj : j < 3) : Met l yX6_speedNow wsX6_speedNow ({ frames := 1, cells := 0, slots := 0, locals := 23 } : Room) (va_Pc [.ref (μ 0), .int (nI j), .int x] (CX D G H)) (QI (A6 μ) (fun r h => R (10 + 10 * j) = r ∧ MO D G μ (usp R j x) S N E P B L1 L2 L3 sm kp th la ln sp od hs h)) 0 0 (A6 μ) := by
  refine Met.ofW (cc := cX6_speedNow) (maxL := 4) (ret := (some .int)) (by decide) rfl ?_
  intro p e s m args below meth c s₁ B0 hml hv
  obtain ⟨rfl, rfl, hK, hN⟩ := hv
  have hx := B0.exec
  have hb := B0.bytes
  have hr := B0.returns
  have hts := atoms_spec (ws := wsX6_speedNow) B0.pre
  have hown : s.vm.findClass RX6 = some m.cls := findClass_of_methodNamed B0.named
  have hlocks := B0.notSynchronized
  have hF : CallFix p m c cX6_speedNow 4 s ([.ref (μ 0), .int (nI j), .int x] : List Value).toArray wsX6_speedNow RX6 := ⟨hx, hb, hml, hown, hts⟩
  have hS : va_S (A6 μ) s.heap s.heap [] := va_S.rf
  have hl := lv_entry ([.ref (μ 0), .int (nI j), .int x]) (n := 4) (Nat.le_of_ble_eq_true rfl)
  rw [lg_entry_eq]
  generalize (lg_sl ([.ref (μ 0), .int (nI j), .int x]) ++ List.replicate (4 - (lg_sl ([.ref (μ 0), .int (nI j), .int x])).length) Slot.unset).toArray = ls at hl ⊢
  have hl : lv_has ls 4 [(0, .ref (μ 0)), (1, .int (nI j)), (2, .int x)] := hl
  refine lv_aload_n hx hb dX6_speedNow_0 rfl (lv_at hl 0 rfl) ?_
  refine lv_iload_n hx hb dX6_speedNow_1 rfl (lv_at hl 1 rfl) ?_
  refine lv_iconst (v := 2) hx hb dX6_speedNow_2 (by decide) ?_
  refine dp_Vi hF hK hN (c_X6_of l D G μ R S N E P B L1 L2 L3 sm kp th la ln sp od hs j 2 10 _ hμ hM (by omega) (by decide) rfl) (cwV 2 hts gX6_speedNow_X6_of rfl rfl rfl (by decide +kernel) ⟨Nat.le_of_ble_eq_true rfl, Nat.le_of_ble_eq_true rfl⟩) (dp_recv hK hM.1 rfl) hS nA_i [] rfl rfl hl.1 (Nat.le_of_ble_eq_true rfl) dX6_speedNow_3 ⟨Nat.le_of_ble_eq_true rfl, Nat.le_of_ble_eq_true rfl⟩ (fun rH1 H1 locs hp hzH1 hkH1 hS => ?_)
  obtain ⟨rfl, rfl⟩ := hp
  refine lv_istore_n (lv' := [(3, .int (R (10 + 10 * j))), (0, .ref (μ 0)), (1, .int (nI j)), (2, .int x)]) hx hb dX6_speedNow_6 rfl hl (by decide) rfl (fun ls hl => ?_)
  refine lv_aload_n hx hb dX6_speedNow_7 rfl (lv_at hl 1 rfl) ?_
  refine lv_iload_n hx hb dX6_speedNow_8 rfl (lv_at hl 2 rfl) ?_
  refine lv_iconst (v := 2) hx hb dX6_speedNow_9 (by decide) ?_
  refine lv_iload_n hx hb dX6_speedNow_10 rfl (lv_at hl 3 rfl) ?_
  refine dp_Vv hF hK hN (c_X6_put l D G μ R S N E P B L1 L2 L3 sm kp th la ln sp od hs j 2 10 x _ hμ hM (by omega) (by decide) rfl) (cwV 3 hts gX6_speedNow_X6_put rfl rfl rfl (by decide +kernel) ⟨Nat.le_of_ble_eq_true rfl, Nat.le_of_ble_eq_true rfl⟩) (dp_recv hK hM.1 rfl) hS (fun q hq => hq) [] rfl rfl hl.1 (Nat.le_of_ble_eq_true rfl) dX6_speedNow_11 ⟨Nat.le_of_ble_eq_true rfl, Nat.le_of_ble_eq_true rfl⟩ (fun H2 locs hp hzH2 hkH2 hS => ?_)
  have hM := hp
  refine lv_iload_n hx hb dX6_speedNow_14 rfl (lv_at hl 0 rfl) ?_
  exact W.iret hx hb hr (fun t ht hW => ⟨⟨R (10 + 10 * j), H2, rfl, ⟨rfl, hM⟩, ht⟩, hS.F ht⟩) hS.2.2 dX6_speedNow_15

set_option maxHeartbeats 600000 in
set_option maxRecDepth 100000 in
theorem c_X6_feederNow (l : Launch) (D : va_G) (G : Nat → ClassId) (μ : Nat → Nat) (R S N E P B L1 L2 L3 : Nat → Int32) (sm kp th la ln sp od : Int32) (hs : Int64) (j : Nat) (x : Int32) (H : Heap) (hμ : inj 10 μ) (hM : MO D G μ R S N E P B L1 L2 L3 sm kp th la ln sp od hs H) (hj : j < 4) : Met l yX6_feederNow wsX6_feederNow ({ frames := 1, cells := 0, slots := 0, locals := 22 } : Room) (va_Pc [.ref (μ 0), .int (nI j), .int x] (CX D G H)) (QI (A6 μ) (fun r h => R (39 + 3 * j) = r ∧ MO D G μ (upd R (39 + 3 * j) x) S N E P B L1 L2 L3 sm kp th la ln sp od hs h)) 0 0 (A6 μ) := by
  refine Met.ofW (cc := cX6_feederNow) (maxL := 4) (ret := (some .int)) (by decide) rfl ?_
  intro p e s m args below meth c s₁ B0 hml hv
  obtain ⟨rfl, rfl, hK, hN⟩ := hv
  have hx := B0.exec
  have hb := B0.bytes
  have hr := B0.returns
  have hts := atoms_spec (ws := wsX6_feederNow) B0.pre
  have hown : s.vm.findClass RX6 = some m.cls := findClass_of_methodNamed B0.named
  have hlocks := B0.notSynchronized
  have hF : CallFix p m c cX6_feederNow 4 s ([.ref (μ 0), .int (nI j), .int x] : List Value).toArray wsX6_feederNow RX6 := ⟨hx, hb, hml, hown, hts⟩
  have hS : va_S (A6 μ) s.heap s.heap [] := va_S.rf
  have hl := lv_entry ([.ref (μ 0), .int (nI j), .int x]) (n := 4) (Nat.le_of_ble_eq_true rfl)
  rw [lg_entry_eq]
  generalize (lg_sl ([.ref (μ 0), .int (nI j), .int x]) ++ List.replicate (4 - (lg_sl ([.ref (μ 0), .int (nI j), .int x])).length) Slot.unset).toArray = ls at hl ⊢
  have hl : lv_has ls 4 [(0, .ref (μ 0)), (1, .int (nI j)), (2, .int x)] := hl
  refine lv_aload_n hx hb dX6_feederNow_0 rfl (lv_at hl 0 rfl) ?_
  refine lv_iload_n hx hb dX6_feederNow_1 rfl (lv_at hl 1 rfl) ?_
  refine lv_iconst (v := 1) hx hb dX6_feederNow_2 (by decide) ?_
  refine dp_Vi hF hK hN (c_X6_ofLine l D G μ R S N E P B L1 L2 L3 sm kp th la ln sp od hs j 1 39 _ hμ hM (by omega) (by decide) rfl) (cwV 2 hts gX6_feederNow_X6_ofLine rfl rfl rfl (by decide +kernel) ⟨Nat.le_of_ble_eq_true rfl, Nat.le_of_ble_eq_true rfl⟩) (dp_recv hK hM.1 rfl) hS nA_i [] rfl rfl hl.1 (Nat.le_of_ble_eq_true rfl) dX6_feederNow_3 ⟨Nat.le_of_ble_eq_true rfl, Nat.le_of_ble_eq_true rfl⟩ (fun rH1 H1 locs hp hzH1 hkH1 hS => ?_)
  obtain ⟨rfl, rfl⟩ := hp
  refine lv_istore_n (lv' := [(3, .int (R (39 + 3 * j))), (0, .ref (μ 0)), (1, .int (nI j)), (2, .int x)]) hx hb dX6_feederNow_6 rfl hl (by decide) rfl (fun ls hl => ?_)
  refine lv_aload_n hx hb dX6_feederNow_7 rfl (lv_at hl 1 rfl) ?_
  refine dp_get hx hb hts (dp_hin 7 rfl) hown hK hM.1 rfl 0 (by decide) (hts (.fieldLink RX6 7 "DroopBoardModel" "row" "[I") (List.mem_of_getElem? (i := 1) rfl)) rfl dX6_feederNow_8 ?_
  refine lv_bipush (v := 38) hx hb dX6_feederNow_11 (by decide) ?_
  refine lv_iconst (v := 3) hx hb dX6_feederNow_13 (by decide) ?_
  refine lv_iload_n hx hb dX6_feederNow_14 rfl (lv_at hl 2 rfl) ?_
  refine lv_imul hx hb dX6_feederNow_15 ?_
  refine lv_iadd hx hb dX6_feederNow_16 ?_
  refine lv_iconst (v := 1) hx hb dX6_feederNow_17 (by decide) ?_
  refine lv_iadd hx hb dX6_feederNow_18 ?_
  rw [mI_l1 j]
  refine lv_iload_n hx hb dX6_feederNow_19 rfl (lv_at hl 3 rfl) ?_
  refine dp_iast (A := A6 μ) hx hb hK hM.2.1 (⟨1, by decide, rfl⟩ : A6 μ (μ 1)) hS 0 rfl ((39 + 3 * j)) rfl (by omega) (by decide) dX6_feederNow_20 (fun H2 locs hH2 hzH2 hkH2 hS => ?_)
  have hM := hM.a1 (X' := upd R ((39 + 3 * j)) x) hμ hH2 hkH2
  refine lv_iload_n hx hb dX6_feederNow_21 rfl (lv_at hl 0 rfl) ?_
  exact W.iret hx hb hr (fun t ht hW => ⟨⟨R (39 + 3 * j), H2, rfl, ⟨rfl, hM⟩, ht⟩, hS.F ht⟩) hS.2.2 dX6_feederNow_22

set_option maxHeartbeats 600000 in
set_option maxRecDepth 100000 in
theorem c_X6_runNow (l : Launch) (D : va_G) (G : Nat → ClassId) (μ : Nat → Nat) (R S N E P B L1 L2 L3 : Nat → Int32) (sm kp th la ln sp od : Int32) (hs : Int64) (j : Nat) (H : Heap) (hμ : inj 10 μ) (hM : MO D G μ R S N E P B L1 L2 L3 sm kp th la ln sp od hs H) (hj : j < 3) : Met l yX6_runNow wsX6_runNow ({ frames := 2, cells := 0, slots := 0, locals := 44 } : Room) (va_Pc [.ref (μ 0), .int (nI j)] (CX D G H)) (QI (A6 μ) (fun r h => sm3 (rst (upd R (11 + 10 * j) 1) j) 11 = r ∧ MO D G μ (rst (upd R (11 + 10 * j) 1) j) S N E P B L1 L2 L3 sm kp th la ln sp od hs h)) 0 0 (A6 μ) := by
  refine Met.ofW (cc := cX6_runNow) (maxL := 2) (ret := (some .int)) (by decide) rfl ?_
  intro p e s m args below meth c s₁ B0 hml hv
  obtain ⟨rfl, rfl, hK, hN⟩ := hv
  have hx := B0.exec
  have hb := B0.bytes
  have hr := B0.returns
  have hts := atoms_spec (ws := wsX6_runNow) B0.pre
  have hown : s.vm.findClass RX6 = some m.cls := findClass_of_methodNamed B0.named
  have hlocks := B0.notSynchronized
  have hF : CallFix p m c cX6_runNow 2 s ([.ref (μ 0), .int (nI j)] : List Value).toArray wsX6_runNow RX6 := ⟨hx, hb, hml, hown, hts⟩
  have hS : va_S (A6 μ) s.heap s.heap [] := va_S.rf
  have hl := lv_entry ([.ref (μ 0), .int (nI j)]) (n := 2) (Nat.le_of_ble_eq_true rfl)
  rw [lg_entry_eq]
  generalize (lg_sl ([.ref (μ 0), .int (nI j)]) ++ List.replicate (2 - (lg_sl ([.ref (μ 0), .int (nI j)])).length) Slot.unset).toArray = ls at hl ⊢
  have hl : lv_has ls 2 [(0, .ref (μ 0)), (1, .int (nI j))] := hl
  refine lv_aload_n hx hb dX6_runNow_0 rfl (lv_at hl 0 rfl) ?_
  refine lv_iload_n hx hb dX6_runNow_1 rfl (lv_at hl 1 rfl) ?_
  refine lv_iconst (v := 3) hx hb dX6_runNow_2 (by decide) ?_
  refine lv_iconst (v := 1) hx hb dX6_runNow_3 (by decide) ?_
  refine dp_Vv hF hK hN (c_X6_put l D G μ R S N E P B L1 L2 L3 sm kp th la ln sp od hs j 3 11 1 _ hμ hM (by omega) (by decide) rfl) (cwV 3 hts gX6_runNow_X6_put rfl rfl rfl (by decide +kernel) ⟨Nat.le_of_ble_eq_true rfl, Nat.le_of_ble_eq_true rfl⟩) (dp_recv hK hM.1 rfl) hS (fun q hq => hq) [] rfl rfl hl.1 (Nat.le_of_ble_eq_true rfl) dX6_runNow_4 ⟨Nat.le_of_ble_eq_true rfl, Nat.le_of_ble_eq_true rfl⟩ (fun H1 locs hp hzH1 hkH1 hS => ?_)
  have hM := hp
  refine lv_aload_n hx hb dX6_runNow_7 rfl (lv_at hl 0 rfl) ?_
  refine lv_iload_n hx hb dX6_runNow_8 rfl (lv_at hl 1 rfl) ?_
  refine dp_Vv hF hK hN (c_X6_rest l D G μ (upd R (11 + 10 * j) 1) S N E P B L1 L2 L3 sm kp th la ln sp od hs j _ hμ hM (by omega)) (cwV 1 hts gX6_runNow_X6_rest rfl rfl rfl (by decide +kernel) ⟨Nat.le_of_ble_eq_true rfl, Nat.le_of_ble_eq_true rfl⟩) (dp_recv hK hM.1 rfl) hS (fun q hq => hq) [] rfl rfl hl.1 (Nat.le_of_ble_eq_true rfl) dX6_runNow_9 ⟨Nat.le_of_ble_eq_true rfl, Nat.le_of_ble_eq_true rfl⟩ (fun H2 locs hp hzH2 hkH2 hS => ?_)
  have hM := hp
  refine lv_aload_n hx hb dX6_runNow_12 rfl (lv_at hl 0 rfl) ?_
  refine lv_iconst (v := 3) hx hb dX6_runNow_13 (by decide) ?_
  refine dp_Vi hF hK hN (c_X6_sum l D G μ (rst (upd R (11 + 10 * j) 1) j) S N E P B L1 L2 L3 sm kp th la ln sp od hs 3 11 _ hμ hM (by decide) rfl) (cwV 1 hts gX6_runNow_X6_sum rfl rfl rfl (by decide +kernel) ⟨Nat.le_of_ble_eq_true rfl, Nat.le_of_ble_eq_true rfl⟩) (dp_recv hK hM.1 rfl) hS nA_i [] rfl rfl hl.1 (Nat.le_of_ble_eq_true rfl) dX6_runNow_14 ⟨Nat.le_of_ble_eq_true rfl, Nat.le_of_ble_eq_true rfl⟩ (fun rH3 H3 locs hp hzH3 hkH3 hS => ?_)
  obtain ⟨rfl, rfl⟩ := hp
  exact W.iret hx hb hr (fun t ht hW => ⟨⟨sm3 (rst (upd R (11 + 10 * j) 1) j) 11, H2, rfl, ⟨rfl, hM⟩, ht⟩, hS.F ht⟩) hS.2.2 dX6_runNow_17

set_option maxHeartbeats 600000 in
set_option maxRecDepth 100000 in
theorem c_X6_haltNow (l : Launch) (D : va_G) (G : Nat → ClassId) (μ : Nat → Nat) (R S N E P B L1 L2 L3 : Nat → Int32) (sm kp th la ln sp od : Int32) (hs : Int64) (j : Nat) (H : Heap) (hμ : inj 10 μ) (hM : MO D G μ R S N E P B L1 L2 L3 sm kp th la ln sp od hs H) (hj : j < 3) : Met l yX6_haltNow wsX6_haltNow ({ frames := 2, cells := 0, slots := 0, locals := 44 } : Room) (va_Pc [.ref (μ 0), .int (nI j)] (CX D G H)) (QI (A6 μ) (fun r h => sm3 (rst (upd R (11 + 10 * j) 0) j) 11 = r ∧ MO D G μ (rst (upd R (11 + 10 * j) 0) j) S N E P B L1 L2 L3 sm kp th la ln sp od hs h)) 0 0 (A6 μ) := by
  refine Met.ofW (cc := cX6_haltNow) (maxL := 2) (ret := (some .int)) (by decide) rfl ?_
  intro p e s m args below meth c s₁ B0 hml hv
  obtain ⟨rfl, rfl, hK, hN⟩ := hv
  have hx := B0.exec
  have hb := B0.bytes
  have hr := B0.returns
  have hts := atoms_spec (ws := wsX6_haltNow) B0.pre
  have hown : s.vm.findClass RX6 = some m.cls := findClass_of_methodNamed B0.named
  have hlocks := B0.notSynchronized
  have hF : CallFix p m c cX6_haltNow 2 s ([.ref (μ 0), .int (nI j)] : List Value).toArray wsX6_haltNow RX6 := ⟨hx, hb, hml, hown, hts⟩
  have hS : va_S (A6 μ) s.heap s.heap [] := va_S.rf
  have hl := lv_entry ([.ref (μ 0), .int (nI j)]) (n := 2) (Nat.le_of_ble_eq_true rfl)
  rw [lg_entry_eq]
  generalize (lg_sl ([.ref (μ 0), .int (nI j)]) ++ List.replicate (2 - (lg_sl ([.ref (μ 0), .int (nI j)])).length) Slot.unset).toArray = ls at hl ⊢
  have hl : lv_has ls 2 [(0, .ref (μ 0)), (1, .int (nI j))] := hl
  refine lv_aload_n hx hb dX6_haltNow_0 rfl (lv_at hl 0 rfl) ?_
  refine lv_iload_n hx hb dX6_haltNow_1 rfl (lv_at hl 1 rfl) ?_
  refine lv_iconst (v := 3) hx hb dX6_haltNow_2 (by decide) ?_
  refine lv_iconst (v := 0) hx hb dX6_haltNow_3 (by decide) ?_
  refine dp_Vv hF hK hN (c_X6_put l D G μ R S N E P B L1 L2 L3 sm kp th la ln sp od hs j 3 11 0 _ hμ hM (by omega) (by decide) rfl) (cwV 3 hts gX6_haltNow_X6_put rfl rfl rfl (by decide +kernel) ⟨Nat.le_of_ble_eq_true rfl, Nat.le_of_ble_eq_true rfl⟩) (dp_recv hK hM.1 rfl) hS (fun q hq => hq) [] rfl rfl hl.1 (Nat.le_of_ble_eq_true rfl) dX6_haltNow_4 ⟨Nat.le_of_ble_eq_true rfl, Nat.le_of_ble_eq_true rfl⟩ (fun H1 locs hp hzH1 hkH1 hS => ?_)
  have hM := hp
  refine lv_aload_n hx hb dX6_haltNow_7 rfl (lv_at hl 0 rfl) ?_
  refine lv_iload_n hx hb dX6_haltNow_8 rfl (lv_at hl 1 rfl) ?_
  refine dp_Vv hF hK hN (c_X6_rest l D G μ (upd R (11 + 10 * j) 0) S N E P B L1 L2 L3 sm kp th la ln sp od hs j _ hμ hM (by omega)) (cwV 1 hts gX6_haltNow_X6_rest rfl rfl rfl (by decide +kernel) ⟨Nat.le_of_ble_eq_true rfl, Nat.le_of_ble_eq_true rfl⟩) (dp_recv hK hM.1 rfl) hS (fun q hq => hq) [] rfl rfl hl.1 (Nat.le_of_ble_eq_true rfl) dX6_haltNow_9 ⟨Nat.le_of_ble_eq_true rfl, Nat.le_of_ble_eq_true rfl⟩ (fun H2 locs hp hzH2 hkH2 hS => ?_)
  have hM := hp
  refine lv_aload_n hx hb dX6_haltNow_12 rfl (lv_at hl 0 rfl) ?_
  refine lv_iconst (v := 3) hx hb dX6_haltNow_13 (by decide) ?_
  refine dp_Vi hF hK hN (c_X6_sum l D G μ (rst (upd R (11 + 10 * j) 0) j) S N E P B L1 L2 L3 sm kp th la ln sp od hs 3 11 _ hμ hM (by decide) rfl) (cwV 1 hts gX6_haltNow_X6_sum rfl rfl rfl (by decide +kernel) ⟨Nat.le_of_ble_eq_true rfl, Nat.le_of_ble_eq_true rfl⟩) (dp_recv hK hM.1 rfl) hS nA_i [] rfl rfl hl.1 (Nat.le_of_ble_eq_true rfl) dX6_haltNow_14 ⟨Nat.le_of_ble_eq_true rfl, Nat.le_of_ble_eq_true rfl⟩ (fun rH3 H3 locs hp hzH3 hkH3 hS => ?_)
  obtain ⟨rfl, rfl⟩ := hp
  exact W.iret hx hb hr (fun t ht hW => ⟨⟨sm3 (rst (upd R (11 + 10 * j) 0) j) 11, H2, rfl, ⟨rfl, hM⟩, ht⟩, hS.F ht⟩) hS.2.2 dX6_haltNow_17

set_option maxHeartbeats 600000 in
set_option maxRecDepth 100000 in
theorem c_X6_switchNow (l : Launch) (D : va_G) (G : Nat → ClassId) (μ : Nat → Nat) (R S N E P B L1 L2 L3 : Nat → Int32) (sm kp th la ln sp od : Int32) (hs : Int64) (j : Nat) (x : Int32) (H : Heap) (hμ : inj 10 μ) (hM : MO D G μ R S N E P B L1 L2 L3 sm kp th la ln sp od hs H) (hj : j < 3) (hwz : wz (rst (upd R (12 + 10 * j) x) j)) : Met l yX6_switchNow wsX6_switchNow ({ frames := 5, cells := 0, slots := 0, locals := 107 } : Room) (va_Pc [.ref (μ 0), .int (nI j), .int x] (CX D G H)) (QI (A6 μ) (fun r h => fq (rst (upd R (12 + 10 * j) x) j) = r ∧ MO D G μ (rst (upd R (12 + 10 * j) x) j) S N E P B L1 L2 L3 sm kp th la ln sp od hs h)) 0 0 (A6 μ) := by
  refine Met.ofW (cc := cX6_switchNow) (maxL := 3) (ret := (some .int)) (by decide) rfl ?_
  intro p e s m args below meth c s₁ B0 hml hv
  obtain ⟨rfl, rfl, hK, hN⟩ := hv
  have hx := B0.exec
  have hb := B0.bytes
  have hr := B0.returns
  have hts := atoms_spec (ws := wsX6_switchNow) B0.pre
  have hown : s.vm.findClass RX6 = some m.cls := findClass_of_methodNamed B0.named
  have hlocks := B0.notSynchronized
  have hF : CallFix p m c cX6_switchNow 3 s ([.ref (μ 0), .int (nI j), .int x] : List Value).toArray wsX6_switchNow RX6 := ⟨hx, hb, hml, hown, hts⟩
  have hS : va_S (A6 μ) s.heap s.heap [] := va_S.rf
  have hl := lv_entry ([.ref (μ 0), .int (nI j), .int x]) (n := 3) (Nat.le_of_ble_eq_true rfl)
  rw [lg_entry_eq]
  generalize (lg_sl ([.ref (μ 0), .int (nI j), .int x]) ++ List.replicate (3 - (lg_sl ([.ref (μ 0), .int (nI j), .int x])).length) Slot.unset).toArray = ls at hl ⊢
  have hl : lv_has ls 3 [(0, .ref (μ 0)), (1, .int (nI j)), (2, .int x)] := hl
  refine lv_aload_n hx hb dX6_switchNow_0 rfl (lv_at hl 0 rfl) ?_
  refine lv_iload_n hx hb dX6_switchNow_1 rfl (lv_at hl 1 rfl) ?_
  refine lv_iconst (v := 4) hx hb dX6_switchNow_2 (by decide) ?_
  refine lv_iload_n hx hb dX6_switchNow_3 rfl (lv_at hl 2 rfl) ?_
  refine dp_Vv hF hK hN (c_X6_put l D G μ R S N E P B L1 L2 L3 sm kp th la ln sp od hs j 4 12 x _ hμ hM (by omega) (by decide) rfl) (cwV 3 hts gX6_switchNow_X6_put rfl rfl rfl (by decide +kernel) ⟨Nat.le_of_ble_eq_true rfl, Nat.le_of_ble_eq_true rfl⟩) (dp_recv hK hM.1 rfl) hS (fun q hq => hq) [] rfl rfl hl.1 (Nat.le_of_ble_eq_true rfl) dX6_switchNow_4 ⟨Nat.le_of_ble_eq_true rfl, Nat.le_of_ble_eq_true rfl⟩ (fun H1 locs hp hzH1 hkH1 hS => ?_)
  have hM := hp
  refine lv_aload_n hx hb dX6_switchNow_7 rfl (lv_at hl 0 rfl) ?_
  refine lv_iload_n hx hb dX6_switchNow_8 rfl (lv_at hl 1 rfl) ?_
  refine dp_Vv hF hK hN (c_X6_rest l D G μ (upd R (12 + 10 * j) x) S N E P B L1 L2 L3 sm kp th la ln sp od hs j _ hμ hM (by omega)) (cwV 1 hts gX6_switchNow_X6_rest rfl rfl rfl (by decide +kernel) ⟨Nat.le_of_ble_eq_true rfl, Nat.le_of_ble_eq_true rfl⟩) (dp_recv hK hM.1 rfl) hS (fun q hq => hq) [] rfl rfl hl.1 (Nat.le_of_ble_eq_true rfl) dX6_switchNow_9 ⟨Nat.le_of_ble_eq_true rfl, Nat.le_of_ble_eq_true rfl⟩ (fun H2 locs hp hzH2 hkH2 hS => ?_)
  have hM := hp
  refine lv_aload_n hx hb dX6_switchNow_12 rfl (lv_at hl 0 rfl) ?_
  refine dp_Vi hF hK hN (c_X6_frequency l D G μ (rst (upd R (12 + 10 * j) x) j) S N E P B L1 L2 L3 sm kp th la ln sp od hs  _ hμ hM hwz) (cwV 0 hts gX6_switchNow_X6_frequency rfl rfl rfl (by decide +kernel) ⟨Nat.le_of_ble_eq_true rfl, Nat.le_of_ble_eq_true rfl⟩) (dp_recv hK hM.1 rfl) hS nA_i [] rfl rfl hl.1 (Nat.le_of_ble_eq_true rfl) dX6_switchNow_13 ⟨Nat.le_of_ble_eq_true rfl, Nat.le_of_ble_eq_true rfl⟩ (fun rH3 H3 locs hp hzH3 hkH3 hS => ?_)
  obtain ⟨rfl, rfl⟩ := hp
  exact W.iret hx hb hr (fun t ht hW => ⟨⟨fq (rst (upd R (12 + 10 * j) x) j), H2, rfl, ⟨rfl, hM⟩, ht⟩, hS.F ht⟩) hS.2.2 dX6_switchNow_16

set_option maxHeartbeats 600000 in
set_option maxRecDepth 100000 in
theorem c_X6_turn (l : Launch) (D : va_G) (G : Nat → ClassId) (μ : Nat → Nat) (R S N E P B L1 L2 L3 : Nat → Int32) (sm kp th la ln sp od : Int32) (hs : Int64) (j : Nat) (f : Int32) (H : Heap) (hμ : inj 10 μ) (hM : MO D G μ R S N E P B L1 L2 L3 sm kp th la ln sp od hs H) (hj : j < 3) : Met l yX6_turn wsX6_turn ({ frames := 1, cells := 0, slots := 0, locals := 23 } : Room) (va_Pc [.ref (μ 0), .int (nI j), .int f] (CX D G H)) (QV (A6 μ) (fun h => MO D G μ (upd R (13 + 10 * j) (fmd (R (13 + 10 * j) + R (10 + 10 * j) - f) 1000)) S N E P B L1 L2 L3 sm kp th la ln sp od hs h)) 0 0 (A6 μ) := by
  refine Met.ofW (cc := cX6_turn) (maxL := 4) (ret := none) (by decide) rfl ?_
  intro p e s m args below meth c s₁ B0 hml hv
  obtain ⟨rfl, rfl, hK, hN⟩ := hv
  have hx := B0.exec
  have hb := B0.bytes
  have hr := B0.returns
  have hts := atoms_spec (ws := wsX6_turn) B0.pre
  have hown : s.vm.findClass RX6 = some m.cls := findClass_of_methodNamed B0.named
  have hlocks := B0.notSynchronized
  have hF : CallFix p m c cX6_turn 4 s ([.ref (μ 0), .int (nI j), .int f] : List Value).toArray wsX6_turn RX6 := ⟨hx, hb, hml, hown, hts⟩
  have hS : va_S (A6 μ) s.heap s.heap [] := va_S.rf
  have hl := lv_entry ([.ref (μ 0), .int (nI j), .int f]) (n := 4) (Nat.le_of_ble_eq_true rfl)
  rw [lg_entry_eq]
  generalize (lg_sl ([.ref (μ 0), .int (nI j), .int f]) ++ List.replicate (4 - (lg_sl ([.ref (μ 0), .int (nI j), .int f])).length) Slot.unset).toArray = ls at hl ⊢
  have hl : lv_has ls 4 [(0, .ref (μ 0)), (1, .int (nI j)), (2, .int f)] := hl
  refine lv_aload_n hx hb dX6_turn_0 rfl (lv_at hl 0 rfl) ?_
  refine lv_iload_n hx hb dX6_turn_1 rfl (lv_at hl 1 rfl) ?_
  refine lv_iconst (v := 5) hx hb dX6_turn_2 (by decide) ?_
  refine dp_Vi hF hK hN (c_X6_of l D G μ R S N E P B L1 L2 L3 sm kp th la ln sp od hs j 5 13 _ hμ hM (by omega) (by decide) rfl) (cwV 2 hts gX6_turn_X6_of rfl rfl rfl (by decide +kernel) ⟨Nat.le_of_ble_eq_true rfl, Nat.le_of_ble_eq_true rfl⟩) (dp_recv hK hM.1 rfl) hS nA_i [] rfl rfl hl.1 (Nat.le_of_ble_eq_true rfl) dX6_turn_3 ⟨Nat.le_of_ble_eq_true rfl, Nat.le_of_ble_eq_true rfl⟩ (fun rH1 H1 locs hp hzH1 hkH1 hS => ?_)
  obtain ⟨rfl, rfl⟩ := hp
  refine lv_aload_n hx hb dX6_turn_6 rfl (lv_at hl 0 rfl) ?_
  refine lv_iload_n hx hb dX6_turn_7 rfl (lv_at hl 1 rfl) ?_
  refine lv_iconst (v := 2) hx hb dX6_turn_8 (by decide) ?_
  refine dp_Vi hF hK hN (c_X6_of l D G μ R S N E P B L1 L2 L3 sm kp th la ln sp od hs j 2 10 _ hμ hM (by omega) (by decide) rfl) (cwV 2 hts gX6_turn_X6_of rfl rfl rfl (by decide +kernel) ⟨Nat.le_of_ble_eq_true rfl, Nat.le_of_ble_eq_true rfl⟩) (dp_recv hK hM.1 rfl) hS nA_i [.int (R (13 + 10 * j))] rfl rfl hl.1 (Nat.le_of_ble_eq_true rfl) dX6_turn_9 ⟨Nat.le_of_ble_eq_true rfl, Nat.le_of_ble_eq_true rfl⟩ (fun rH2 H2 locs hp hzH2 hkH2 hS => ?_)
  obtain ⟨rfl, rfl⟩ := hp
  refine lv_iadd hx hb dX6_turn_12 ?_
  refine lv_iload_n hx hb dX6_turn_13 rfl (lv_at hl 2 rfl) ?_
  refine lv_isub hx hb dX6_turn_14 ?_
  refine lv_sipush (v := 1000) hx hb dX6_turn_15 (by decide) ?_
  refine lv_irem hx hb dX6_turn_18 (by decide) ?_
  refine lv_istore_n (lv' := [(3, .int ((((R (13 + 10 * j)) + (R (10 + 10 * j))) - f) - (((R (13 + 10 * j)) + (R (10 + 10 * j))) - f) / 1000 * 1000)), (0, .ref (μ 0)), (1, .int (nI j)), (2, .int f)]) hx hb dX6_turn_19 rfl hl (by decide) rfl (fun ls hl => ?_)
  refine lv_aload_n hx hb dX6_turn_20 rfl (lv_at hl 1 rfl) ?_
  refine lv_iload_n hx hb dX6_turn_21 rfl (lv_at hl 2 rfl) ?_
  refine lv_iconst (v := 5) hx hb dX6_turn_22 (by decide) ?_
  refine lv_iload_n hx hb dX6_turn_23 rfl (lv_at hl 0 rfl) ?_
  refine lv_if_ge (tgt := 35) hx hb dX6_turn_24 (by decide) (fun c1 => ?_) (fun c1 => ?_)
  · refine lv_iload_n hx hb dX6_turn_35 rfl (lv_at hl 0 rfl) ?_
    refine dp_Vv hF hK hN (c_X6_put l D G μ R S N E P B L1 L2 L3 sm kp th la ln sp od hs j 5 13 ((((R (13 + 10 * j)) + (R (10 + 10 * j))) - f) - (((R (13 + 10 * j)) + (R (10 + 10 * j))) - f) / 1000 * 1000) _ hμ hM (by omega) (by decide) rfl) (cwV 3 hts gX6_turn_X6_put rfl rfl rfl (by decide +kernel) ⟨Nat.le_of_ble_eq_true rfl, Nat.le_of_ble_eq_true rfl⟩) (dp_recv hK hM.1 rfl) hS (fun q hq => hq) [] rfl rfl hl.1 (Nat.le_of_ble_eq_true rfl) dX6_turn_36 ⟨Nat.le_of_ble_eq_true rfl, Nat.le_of_ble_eq_true rfl⟩ (fun H3 locs hp hzH3 hkH3 hS => ?_)
    have hM := hp
    exact W.vret hx hb hr (fun t ht hW => ⟨⟨H3, rfl, by rw [fmd_p c1]; exact hM, ht⟩, hS.F ht⟩) hS.2.2 dX6_turn_39
  refine lv_iload_n hx hb dX6_turn_27 rfl (lv_at hl 0 rfl) ?_
  refine lv_sipush (v := 1000) hx hb dX6_turn_28 (by decide) ?_
  refine lv_iadd hx hb dX6_turn_31 ?_
  refine lv_goto (tgt := 36) hx hb dX6_turn_32 (by decide) ?_
  refine dp_Vv hF hK hN (c_X6_put l D G μ R S N E P B L1 L2 L3 sm kp th la ln sp od hs j 5 13 (((((R (13 + 10 * j)) + (R (10 + 10 * j))) - f) - (((R (13 + 10 * j)) + (R (10 + 10 * j))) - f) / 1000 * 1000) + 1000) _ hμ hM (by omega) (by decide) rfl) (cwV 3 hts gX6_turn_X6_put rfl rfl rfl (by decide +kernel) ⟨Nat.le_of_ble_eq_true rfl, Nat.le_of_ble_eq_true rfl⟩) (dp_recv hK hM.1 rfl) hS (fun q hq => hq) [] rfl rfl hl.1 (Nat.le_of_ble_eq_true rfl) dX6_turn_36 ⟨Nat.le_of_ble_eq_true rfl, Nat.le_of_ble_eq_true rfl⟩ (fun H4 locs hp hzH4 hkH4 hS => ?_)
  have hM := hp
  exact W.vret hx hb hr (fun t ht hW => ⟨⟨H4, rfl, by rw [fmd_n c1]; exact hM, ht⟩, hS.F ht⟩) hS.2.2 dX6_turn_39

set_option maxHeartbeats 600000 in
set_option maxRecDepth 100000 in
theorem c_X6_watch (l : Launch) (D : va_G) (G : Nat → ClassId) (μ : Nat → Nat) (R S N E P B L1 L2 L3 : Nat → Int32) (sm kp th la ln sp od : Int32) (hs : Int64) (j : Nat) (H : Heap) (hμ : inj 10 μ) (hM : MO D G μ R S N E P B L1 L2 L3 sm kp th la ln sp od hs H) (hj : j < 3) : Met l yX6_watch wsX6_watch ({ frames := 1, cells := 0, slots := 0, locals := 23 } : Room) (va_Pc [.ref (μ 0), .int (nI j)] (CX D G H)) (QV (A6 μ) (fun h => MO D G μ (wtc R P j) S N E P B L1 L2 L3 sm kp th la ln sp od hs h)) 0 0 (A6 μ) := by
  refine Met.ofW (cc := cX6_watch) (maxL := 3) (ret := none) (by decide) rfl ?_
  intro p e s m args below meth c s₁ B0 hml hv
  obtain ⟨rfl, rfl, hK, hN⟩ := hv
  have hx := B0.exec
  have hb := B0.bytes
  have hr := B0.returns
  have hts := atoms_spec (ws := wsX6_watch) B0.pre
  have hown : s.vm.findClass RX6 = some m.cls := findClass_of_methodNamed B0.named
  have hlocks := B0.notSynchronized
  have hF : CallFix p m c cX6_watch 3 s ([.ref (μ 0), .int (nI j)] : List Value).toArray wsX6_watch RX6 := ⟨hx, hb, hml, hown, hts⟩
  have hS : va_S (A6 μ) s.heap s.heap [] := va_S.rf
  have hl := lv_entry ([.ref (μ 0), .int (nI j)]) (n := 3) (Nat.le_of_ble_eq_true rfl)
  rw [lg_entry_eq]
  generalize (lg_sl ([.ref (μ 0), .int (nI j)]) ++ List.replicate (3 - (lg_sl ([.ref (μ 0), .int (nI j)])).length) Slot.unset).toArray = ls at hl ⊢
  have hl : lv_has ls 3 [(0, .ref (μ 0)), (1, .int (nI j))] := hl
  refine lv_aload_n hx hb dX6_watch_0 rfl (lv_at hl 0 rfl) ?_
  refine lv_iload_n hx hb dX6_watch_1 rfl (lv_at hl 1 rfl) ?_
  refine lv_iconst (v := 0) hx hb dX6_watch_2 (by decide) ?_
  refine dp_Vi hF hK hN (c_X6_of l D G μ R S N E P B L1 L2 L3 sm kp th la ln sp od hs j 0 8 _ hμ hM (by omega) (by decide) rfl) (cwV 2 hts gX6_watch_X6_of rfl rfl rfl (by decide +kernel) ⟨Nat.le_of_ble_eq_true rfl, Nat.le_of_ble_eq_true rfl⟩) (dp_recv hK hM.1 rfl) hS nA_i [] rfl rfl hl.1 (Nat.le_of_ble_eq_true rfl) dX6_watch_3 ⟨Nat.le_of_ble_eq_true rfl, Nat.le_of_ble_eq_true rfl⟩ (fun rH1 H1 locs hp hzH1 hkH1 hS => ?_)
  obtain ⟨rfl, rfl⟩ := hp
  refine lv_istore_n (lv' := [(2, .int (R (8 + 10 * j))), (0, .ref (μ 0)), (1, .int (nI j))]) hx hb dX6_watch_6 rfl hl (by decide) rfl (fun ls hl => ?_)
  refine lv_aload_n hx hb dX6_watch_7 rfl (lv_at hl 1 rfl) ?_
  refine lv_iload_n hx hb dX6_watch_8 rfl (lv_at hl 2 rfl) ?_
  refine lv_bipush (v := 6) hx hb dX6_watch_9 (by decide) ?_
  refine lv_aload_n hx hb dX6_watch_11 rfl (lv_at hl 1 rfl) ?_
  refine dp_get hx hb hts (dp_hin 12 rfl) hown hK hM.1 rfl 7 (by decide) (hts (.fieldLink RX6 22 "DroopBoardModel" "powers" "[I") (List.mem_of_getElem? (i := 1) rfl)) rfl dX6_watch_12 ?_
  refine lv_iload_n hx hb dX6_watch_15 rfl (lv_at hl 2 rfl) ?_
  refine dp_iald hx hb hK hM.2.2.2.2.2.1 0 rfl j rfl (by omega) (by decide) dX6_watch_16 ?_
  refine lv_iload_n hx hb dX6_watch_17 rfl (lv_at hl 0 rfl) ?_
  refine lv_iload_n hx hb dX6_watch_18 rfl (lv_at hl 0 rfl) ?_
  refine lv_bipush (v := 10) hx hb dX6_watch_19 (by decide) ?_
  refine lv_idiv hx hb dX6_watch_21 (by decide) ?_
  refine lv_iadd hx hb dX6_watch_22 ?_
  refine lv_icmp_le (tgt := 38) hx hb dX6_watch_23 (by decide) (fun c1 => ?_) (fun c1 => ?_)
  · refine lv_iconst (v := 0) hx hb dX6_watch_38 (by decide) ?_
    refine dp_Vv hF hK hN (c_X6_put l D G μ R S N E P B L1 L2 L3 sm kp th la ln sp od hs j 6 14 0 _ hμ hM (by omega) (by decide) rfl) (cwV 3 hts gX6_watch_X6_put rfl rfl rfl (by decide +kernel) ⟨Nat.le_of_ble_eq_true rfl, Nat.le_of_ble_eq_true rfl⟩) (dp_recv hK hM.1 rfl) hS (fun q hq => hq) [] rfl rfl hl.1 (Nat.le_of_ble_eq_true rfl) dX6_watch_39 ⟨Nat.le_of_ble_eq_true rfl, Nat.le_of_ble_eq_true rfl⟩ (fun H2 locs hp hzH2 hkH2 hS => ?_)
    have hM := hp
    refine lv_aload_n hx hb dX6_watch_42 rfl (lv_at hl 1 rfl) ?_
    refine lv_iload_n hx hb dX6_watch_43 rfl (lv_at hl 2 rfl) ?_
    refine lv_bipush (v := 7) hx hb dX6_watch_44 (by decide) ?_
    refine lv_aload_n hx hb dX6_watch_46 rfl (lv_at hl 1 rfl) ?_
    refine dp_get hx hb hts (dp_hin 12 rfl) hown hK hM.1 rfl 7 (by decide) (hts (.fieldLink RX6 22 "DroopBoardModel" "powers" "[I") (List.mem_of_getElem? (i := 1) rfl)) rfl dX6_watch_47 ?_
    refine lv_iload_n hx hb dX6_watch_50 rfl (lv_at hl 2 rfl) ?_
    refine dp_iald hx hb hK hM.2.2.2.2.2.1 0 rfl j rfl (by omega) (by decide) dX6_watch_51 ?_
    refine lv_iload_n hx hb dX6_watch_52 rfl (lv_at hl 0 rfl) ?_
    refine lv_bipush (v := 20) hx hb dX6_watch_53 (by decide) ?_
    refine lv_idiv hx hb dX6_watch_55 (by decide) ?_
    refine lv_ineg hx hb dX6_watch_56 ?_
    refine lv_icmp_ge (tgt := 72) hx hb dX6_watch_57 (by decide) (fun c2 => ?_) (fun c2 => ?_)
    · refine lv_iconst (v := 0) hx hb dX6_watch_72 (by decide) ?_
      refine dp_Vv hF hK hN (c_X6_put l D G μ (upd R (14 + 10 * j) 0) S N E P B L1 L2 L3 sm kp th la ln sp od hs j 7 15 0 _ hμ hM (by omega) (by decide) rfl) (cwV 3 hts gX6_watch_X6_put rfl rfl rfl (by decide +kernel) ⟨Nat.le_of_ble_eq_true rfl, Nat.le_of_ble_eq_true rfl⟩) (dp_recv hK hM.1 rfl) hS (fun q hq => hq) [] rfl rfl hl.1 (Nat.le_of_ble_eq_true rfl) dX6_watch_73 ⟨Nat.le_of_ble_eq_true rfl, Nat.le_of_ble_eq_true rfl⟩ (fun H3 locs hp hzH3 hkH3 hS => ?_)
      have hM := hp
      exact W.vret hx hb hr (fun t ht hW => ⟨⟨H3, rfl, by rw [wtc, if_pos c1, if_pos c2]; exact hM, ht⟩, hS.F ht⟩) hS.2.2 dX6_watch_76
    refine lv_aload_n hx hb dX6_watch_60 rfl (lv_at hl 1 rfl) ?_
    refine lv_iload_n hx hb dX6_watch_61 rfl (lv_at hl 2 rfl) ?_
    refine lv_bipush (v := 7) hx hb dX6_watch_62 (by decide) ?_
    refine dp_Vi hF hK hN (c_X6_of l D G μ (upd R (14 + 10 * j) 0) S N E P B L1 L2 L3 sm kp th la ln sp od hs j 7 15 _ hμ hM (by omega) (by decide) rfl) (cwV 2 hts gX6_watch_X6_of rfl rfl rfl (by decide +kernel) ⟨Nat.le_of_ble_eq_true rfl, Nat.le_of_ble_eq_true rfl⟩) (dp_recv hK hM.1 rfl) hS nA_i [.int 7, .int (nI j), .ref (μ 0)] rfl rfl hl.1 (Nat.le_of_ble_eq_true rfl) dX6_watch_64 ⟨Nat.le_of_ble_eq_true rfl, Nat.le_of_ble_eq_true rfl⟩ (fun rH4 H4 locs hp hzH4 hkH4 hS => ?_)
    obtain ⟨rfl, rfl⟩ := hp
    refine lv_iconst (v := 1) hx hb dX6_watch_67 (by decide) ?_
    refine lv_iadd hx hb dX6_watch_68 ?_
    refine lv_goto (tgt := 73) hx hb dX6_watch_69 (by decide) ?_
    refine dp_Vv hF hK hN (c_X6_put l D G μ (upd R (14 + 10 * j) 0) S N E P B L1 L2 L3 sm kp th la ln sp od hs j 7 15 (((upd R (14 + 10 * j) 0) (15 + 10 * j)) + 1) _ hμ hM (by omega) (by decide) rfl) (cwV 3 hts gX6_watch_X6_put rfl rfl rfl (by decide +kernel) ⟨Nat.le_of_ble_eq_true rfl, Nat.le_of_ble_eq_true rfl⟩) (dp_recv hK hM.1 rfl) hS (fun q hq => hq) [] rfl rfl hl.1 (Nat.le_of_ble_eq_true rfl) dX6_watch_73 ⟨Nat.le_of_ble_eq_true rfl, Nat.le_of_ble_eq_true rfl⟩ (fun H5 locs hp hzH5 hkH5 hS => ?_)
    have hM := hp
    exact W.vret hx hb hr (fun t ht hW => ⟨⟨H5, rfl, by rw [wtc, if_pos c1, if_neg c2]; exact hM, ht⟩, hS.F ht⟩) hS.2.2 dX6_watch_76
  refine lv_aload_n hx hb dX6_watch_26 rfl (lv_at hl 1 rfl) ?_
  refine lv_iload_n hx hb dX6_watch_27 rfl (lv_at hl 2 rfl) ?_
  refine lv_bipush (v := 6) hx hb dX6_watch_28 (by decide) ?_
  refine dp_Vi hF hK hN (c_X6_of l D G μ R S N E P B L1 L2 L3 sm kp th la ln sp od hs j 6 14 _ hμ hM (by omega) (by decide) rfl) (cwV 2 hts gX6_watch_X6_of rfl rfl rfl (by decide +kernel) ⟨Nat.le_of_ble_eq_true rfl, Nat.le_of_ble_eq_true rfl⟩) (dp_recv hK hM.1 rfl) hS nA_i [.int 6, .int (nI j), .ref (μ 0)] rfl rfl hl.1 (Nat.le_of_ble_eq_true rfl) dX6_watch_30 ⟨Nat.le_of_ble_eq_true rfl, Nat.le_of_ble_eq_true rfl⟩ (fun rH6 H6 locs hp hzH6 hkH6 hS => ?_)
  obtain ⟨rfl, rfl⟩ := hp
  refine lv_iconst (v := 1) hx hb dX6_watch_33 (by decide) ?_
  refine lv_iadd hx hb dX6_watch_34 ?_
  refine lv_goto (tgt := 39) hx hb dX6_watch_35 (by decide) ?_
  refine dp_Vv hF hK hN (c_X6_put l D G μ R S N E P B L1 L2 L3 sm kp th la ln sp od hs j 6 14 ((R (14 + 10 * j)) + 1) _ hμ hM (by omega) (by decide) rfl) (cwV 3 hts gX6_watch_X6_put rfl rfl rfl (by decide +kernel) ⟨Nat.le_of_ble_eq_true rfl, Nat.le_of_ble_eq_true rfl⟩) (dp_recv hK hM.1 rfl) hS (fun q hq => hq) [] rfl rfl hl.1 (Nat.le_of_ble_eq_true rfl) dX6_watch_39 ⟨Nat.le_of_ble_eq_true rfl, Nat.le_of_ble_eq_true rfl⟩ (fun H7 locs hp hzH7 hkH7 hS => ?_)
  have hM := hp
  refine lv_aload_n hx hb dX6_watch_42 rfl (lv_at hl 1 rfl) ?_
  refine lv_iload_n hx hb dX6_watch_43 rfl (lv_at hl 2 rfl) ?_
  refine lv_bipush (v := 7) hx hb dX6_watch_44 (by decide) ?_
  refine lv_aload_n hx hb dX6_watch_46 rfl (lv_at hl 1 rfl) ?_
  refine dp_get hx hb hts (dp_hin 12 rfl) hown hK hM.1 rfl 7 (by decide) (hts (.fieldLink RX6 22 "DroopBoardModel" "powers" "[I") (List.mem_of_getElem? (i := 1) rfl)) rfl dX6_watch_47 ?_
  refine lv_iload_n hx hb dX6_watch_50 rfl (lv_at hl 2 rfl) ?_
  refine dp_iald hx hb hK hM.2.2.2.2.2.1 0 rfl j rfl (by omega) (by decide) dX6_watch_51 ?_
  refine lv_iload_n hx hb dX6_watch_52 rfl (lv_at hl 0 rfl) ?_
  refine lv_bipush (v := 20) hx hb dX6_watch_53 (by decide) ?_
  refine lv_idiv hx hb dX6_watch_55 (by decide) ?_
  refine lv_ineg hx hb dX6_watch_56 ?_
  refine lv_icmp_ge (tgt := 72) hx hb dX6_watch_57 (by decide) (fun c3 => ?_) (fun c3 => ?_)
  · refine lv_iconst (v := 0) hx hb dX6_watch_72 (by decide) ?_
    refine dp_Vv hF hK hN (c_X6_put l D G μ (upd R (14 + 10 * j) ((R (14 + 10 * j)) + 1)) S N E P B L1 L2 L3 sm kp th la ln sp od hs j 7 15 0 _ hμ hM (by omega) (by decide) rfl) (cwV 3 hts gX6_watch_X6_put rfl rfl rfl (by decide +kernel) ⟨Nat.le_of_ble_eq_true rfl, Nat.le_of_ble_eq_true rfl⟩) (dp_recv hK hM.1 rfl) hS (fun q hq => hq) [] rfl rfl hl.1 (Nat.le_of_ble_eq_true rfl) dX6_watch_73 ⟨Nat.le_of_ble_eq_true rfl, Nat.le_of_ble_eq_true rfl⟩ (fun H8 locs hp hzH8 hkH8 hS => ?_)
    have hM := hp
    exact W.vret hx hb hr (fun t ht hW => ⟨⟨H8, rfl, by rw [wtc, if_neg c1, if_pos c3]; exact hM, ht⟩, hS.F ht⟩) hS.2.2 dX6_watch_76
  refine lv_aload_n hx hb dX6_watch_60 rfl (lv_at hl 1 rfl) ?_
  refine lv_iload_n hx hb dX6_watch_61 rfl (lv_at hl 2 rfl) ?_
  refine lv_bipush (v := 7) hx hb dX6_watch_62 (by decide) ?_
  refine dp_Vi hF hK hN (c_X6_of l D G μ (upd R (14 + 10 * j) ((R (14 + 10 * j)) + 1)) S N E P B L1 L2 L3 sm kp th la ln sp od hs j 7 15 _ hμ hM (by omega) (by decide) rfl) (cwV 2 hts gX6_watch_X6_of rfl rfl rfl (by decide +kernel) ⟨Nat.le_of_ble_eq_true rfl, Nat.le_of_ble_eq_true rfl⟩) (dp_recv hK hM.1 rfl) hS nA_i [.int 7, .int (nI j), .ref (μ 0)] rfl rfl hl.1 (Nat.le_of_ble_eq_true rfl) dX6_watch_64 ⟨Nat.le_of_ble_eq_true rfl, Nat.le_of_ble_eq_true rfl⟩ (fun rH9 H9 locs hp hzH9 hkH9 hS => ?_)
  obtain ⟨rfl, rfl⟩ := hp
  refine lv_iconst (v := 1) hx hb dX6_watch_67 (by decide) ?_
  refine lv_iadd hx hb dX6_watch_68 ?_
  refine lv_goto (tgt := 73) hx hb dX6_watch_69 (by decide) ?_
  refine dp_Vv hF hK hN (c_X6_put l D G μ (upd R (14 + 10 * j) ((R (14 + 10 * j)) + 1)) S N E P B L1 L2 L3 sm kp th la ln sp od hs j 7 15 (((upd R (14 + 10 * j) ((R (14 + 10 * j)) + 1)) (15 + 10 * j)) + 1) _ hμ hM (by omega) (by decide) rfl) (cwV 3 hts gX6_watch_X6_put rfl rfl rfl (by decide +kernel) ⟨Nat.le_of_ble_eq_true rfl, Nat.le_of_ble_eq_true rfl⟩) (dp_recv hK hM.1 rfl) hS (fun q hq => hq) [] rfl rfl hl.1 (Nat.le_of_ble_eq_true rfl) dX6_watch_73 ⟨Nat.le_of_ble_eq_true rfl, Nat.le_of_ble_eq_true rfl⟩ (fun H10 locs hp hzH10 hkH10 hS => ?_)
  have hM := hp
  exact W.vret hx hb hr (fun t ht hW => ⟨⟨H10, rfl, by rw [wtc, if_neg c1, if_neg c3]; exact hM, ht⟩, hS.F ht⟩) hS.2.2 dX6_watch_76
