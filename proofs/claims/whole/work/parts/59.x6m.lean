set_option maxHeartbeats 600000 in
set_option maxRecDepth 100000 in
theorem c_X6_readRest (l : Launch) (D : va_G) (G : Nat → ClassId) (μ : Nat → Nat) (R S N E P B L1 L2 L3 : Nat → Int32) (sm kp th la ln sp od : Int32) (hs : Int64) (a len o : Nat) (c9 : Int32) (H : Heap) (hμ : inj 10 μ) (hM : MO D G μ R S N E P B L1 L2 L3 sm kp th la ln sp od hs H) (hsp : sp = nI (a + 1)) (hln : ln = nI len) (hpl : a + 1 ≤ len) (hl6 : len ≤ 60) (hod : od = nI o) (ho : o < 24) (hlt : ltr c9) (hd0 : dfa B (a + 1) = aftl c9) : Met l yX6_readRest wsX6_readRest ({ frames := 3, cells := 0, slots := 0, locals := 67 } : Room) (va_Pc [.ref (μ 0), .int c9] (CX D G H)) (QI (A6 μ) (fun r h => (1 = r ∧ ∃ (e : Nat) (X2 X3 : Nat → Int32), ordR B len c9 (X2 o) (X3 o) a e ∧ fin B len e ∧ (∀ k, ¬ k = o → X2 k = L2 k ∧ X3 k = L3 k) ∧ MO D G μ R S N E P B L1 X2 X3 sm kp th la (nI len) (nI e) (nI o) hs h) ∨ (0 = r ∧ ∃ (p2 : Nat) (X2 X3 : Nat → Int32), bad B len p2 ∧ p2 ≤ len ∧ (∀ k, ¬ k = o → X2 k = L2 k ∧ X3 k = L3 k) ∧ MO D G μ R S N E P B L1 X2 X3 sm kp th la (nI len) (nI p2) (nI o) hs h))) 0 0 (A6 μ) := by
  refine Met.ofW (cc := cX6_readRest) (maxL := 2) (ret := (some .boolean)) (by decide) rfl ?_
  intro p e s m args below meth c s₁ B0 hml hv
  obtain ⟨rfl, rfl, hK, hN⟩ := hv
  have hx := B0.exec
  have hb := B0.bytes
  have hr := B0.returns
  have hts := atoms_spec (ws := wsX6_readRest) B0.pre
  have hown : s.vm.findClass RX6 = some m.cls := findClass_of_methodNamed B0.named
  have hlocks := B0.notSynchronized
  have hF : CallFix p m c cX6_readRest 2 s ([.ref (μ 0), .int c9] : List Value).toArray wsX6_readRest RX6 := ⟨hx, hb, hml, hown, hts⟩
  have hS : va_S (A6 μ) s.heap s.heap [] := va_S.rf
  have hl := lv_entry ([.ref (μ 0), .int c9]) (n := 2) (Nat.le_of_ble_eq_true rfl)
  rw [lg_entry_eq]
  generalize (lg_sl ([.ref (μ 0), .int c9]) ++ List.replicate (2 - (lg_sl ([.ref (μ 0), .int c9])).length) Slot.unset).toArray = ls at hl ⊢
  have hl : lv_has ls 2 [(0, .ref (μ 0)), (1, .int c9)] := hl
  subst hsp hln hod
  rcases hlt with rfl | rfl | rfl | rfl | rfl | rfl | rfl
  · have hd0 : dfa B (a + 1) = 3 := hd0
    refine lv_iload_n hx hb dX6_readRest_0 rfl (lv_at hl 1 rfl) ?_
    refine lv_bipush (v := 116) hx hb dX6_readRest_1 (by decide) ?_
    refine lv_icmp_ne (tgt := 11) hx hb dX6_readRest_3 (by decide) (fun c1 => ?_) (fun c1 => absurd c1 (by decide))
    refine lv_aload_n hx hb dX6_readRest_11 rfl (lv_at hl 0 rfl) ?_
    refine lv_bipush (v := 48) hx hb dX6_readRest_12 (by decide) ?_
    refine lv_iload_n hx hb dX6_readRest_14 rfl (lv_at hl 1 rfl) ?_
    refine lv_bipush (v := 102) hx hb dX6_readRest_15 (by decide) ?_
    refine lv_icmp_ne (tgt := 25) hx hb dX6_readRest_17 (by decide) (fun c2 => ?_) (fun c2 => absurd c2 (by decide))
    refine lv_bipush (v := 50) hx hb dX6_readRest_25 (by decide) ?_
    refine dp_Vi hF hK hN (c_X6_takes l D G μ R S N E P B L1 L2 L3 sm kp th la (nI len) (nI (a + 1)) (nI o) hs (a + 1) len 48 50 _ hμ hM rfl rfl hpl hl6) (cwV 2 hts gX6_readRest_X6_takes rfl rfl rfl (by decide +kernel) ⟨Nat.le_of_ble_eq_true rfl, Nat.le_of_ble_eq_true rfl⟩) (dp_recv hK hM.1 rfl) hS (fun q hq => hq) [] rfl rfl hl.1 (Nat.le_of_ble_eq_true rfl) dX6_readRest_27 ⟨Nat.le_of_ble_eq_true rfl, Nat.le_of_ble_eq_true rfl⟩ (fun rH1 H1 locs hp hzH1 hkH1 hS => ?_)
    rcases hp with ⟨rfl, hq1, hM⟩ | ⟨rfl, hq1, hM⟩
    · have hd1 : dfa B (a + 2) = 4 := (df_s hd0).trans (by rw [nx3, bt_y hq1.2])
      refine lv_if_ne (tgt := 35) hx hb dX6_readRest_30 (by decide) (fun c3 => ?_) (fun c3 => absurd c3 (by decide))
      refine lv_aload_n hx hb dX6_readRest_35 rfl (lv_at hl 0 rfl) ?_
      refine dp_get hx hb hts (dp_hin 27 rfl) hown hK hM.1 rfl 14 (by decide) (hts (.fieldLink RX6 31 "DroopBoardModel" "first" "[I") (List.mem_of_getElem? (i := 1) rfl)) rfl dX6_readRest_36 ?_
      refine lv_aload_n hx hb dX6_readRest_39 rfl (lv_at hl 0 rfl) ?_
      refine dp_get hx hb hts (dp_hin 27 rfl) hown hK hM.1 rfl 12 (by decide) (hts (.fieldLink RX6 165 "DroopBoardModel" "orders" "I") (List.mem_of_getElem? (i := 2) rfl)) rfl dX6_readRest_40 ?_
      refine lv_aload_n hx hb dX6_readRest_43 rfl (lv_at hl 0 rfl) ?_
      refine lv_iconst (v := 1) hx hb dX6_readRest_44 (by decide) ?_
      refine dp_Vi hF hK hN (c_X6_digit l D G μ R S N E P B L1 L2 L3 sm kp th la (nI len) (nI (a + 2)) (nI o) hs (a + 2) (a + 1) 1 _ hμ hM rfl (by omega) (by omega) (by decide)) (cwV 1 hts gX6_readRest_X6_digit rfl rfl rfl (by decide +kernel) ⟨Nat.le_of_ble_eq_true rfl, Nat.le_of_ble_eq_true rfl⟩) (dp_recv hK hM.1 rfl) hS nA_i [.int (nI o), .ref (μ 8)] rfl rfl hl.1 (Nat.le_of_ble_eq_true rfl) dX6_readRest_45 ⟨Nat.le_of_ble_eq_true rfl, Nat.le_of_ble_eq_true rfl⟩ (fun rH2 H2 locs hp hzH2 hkH2 hS => ?_)
      obtain ⟨rfl, rfl⟩ := hp
      refine dp_iast (A := A6 μ) hx hb hK hM.2.2.2.2.2.2.2.2.1 (⟨8, by decide, rfl⟩ : A6 μ (μ 8)) hS 0 rfl o rfl (by omega) (by decide) dX6_readRest_48 (fun H3 locs hH3 hzH3 hkH3 hS => ?_)
      have hM := hM.a8 (X' := upd L2 o (B (a + 1) - 48)) hμ hH3 hkH3
      refine lv_iload_n hx hb dX6_readRest_49 rfl (lv_at hl 1 rfl) ?_
      refine lv_bipush (v := 102) hx hb dX6_readRest_50 (by decide) ?_
      refine lv_icmp_ne (tgt := 122) hx hb dX6_readRest_52 (by decide) (fun c4 => ?_) (fun c4 => absurd c4 (by decide))
      refine lv_iload_n hx hb dX6_readRest_122 rfl (lv_at hl 1 rfl) ?_
      refine lv_bipush (v := 115) hx hb dX6_readRest_123 (by decide) ?_
      refine lv_icmp_ne (tgt := 135) hx hb dX6_readRest_125 (by decide) (fun c5 => absurd c5 (by decide)) (fun c5 => ?_)
      refine lv_aload_n hx hb dX6_readRest_128 rfl (lv_at hl 0 rfl) ?_
      refine dp_Vi hF hK hN (c_X6_readSpeed l D G μ R S N E P B L1 (upd L2 o (B (a + 1) - 48)) L3 sm kp th la (nI len) (nI (a + 2)) (nI o) hs (a + 2) len o _ hμ hM rfl rfl hq1.1 hl6 rfl ho hd1) (cwV 0 hts gX6_readRest_X6_readSpeed rfl rfl rfl (by decide +kernel) ⟨Nat.le_of_ble_eq_true rfl, Nat.le_of_ble_eq_true rfl⟩) (dp_recv hK hM.1 rfl) hS (fun q hq => hq) [] rfl rfl hl.1 (Nat.le_of_ble_eq_true rfl) dX6_readRest_129 ⟨Nat.le_of_ble_eq_true rfl, Nat.le_of_ble_eq_true rfl⟩ (fun rH4 H4 locs hp hzH4 hkH4 hS => ?_)
      rcases hp with ⟨rfl, hr1, hr2, hr3, vv, hvv, hvn, hM⟩ | ⟨rfl, p2, hbad, hp2, hM⟩
      · refine lv_if_eq (tgt := 139) hx hb dX6_readRest_132 (by decide) (fun c6 => absurd c6 (by decide)) (fun c6 => ?_)
        refine lv_iconst (v := 1) hx hb dX6_readRest_135 (by decide) ?_
        refine lv_goto (tgt := 140) hx hb dX6_readRest_136 (by decide) ?_
        obtain ⟨j9, hj9, ej, en⟩ := set_nI (b := 50) (N := 50) rfl (by omega) hq1.1 hq1.2
        exact W.zret (ty := .boolean) hx hb hr rfl (fun t ht hW => ⟨⟨1, H4, rfl, Or.inl ⟨rfl, a + 2 + 5, (upd L2 o (B (a + 1) - 48)), (upd L3 o (nI (4700 + vv))), ⟨by omega, hr1, (fun k h1 h2 => by by_cases w : k = a + 1; rw [w]; exact c_not hq1.2 (Or.inr (by decide)); exact hr3 k (by omega) h2), (fun q => absurd q (by decide)), fun _ => ⟨j9, by omega, fun _ => by omega, upd_eq.trans ej, en⟩, (fun q => absurd q (by decide)), fun _ => ⟨by omega, vv, hvv, upd_eq, by rw [show a + 2 + 5 - (a + 3) = 4 by omega]; exact hvn⟩⟩, Or.inl hr2, (fun k q => ⟨upd_ne q, upd_ne q⟩), hM⟩, ht⟩, hS.F ht⟩) hS.2.2 dX6_readRest_140
      · refine lv_if_eq (tgt := 139) hx hb dX6_readRest_132 (by decide) (fun c7 => ?_) (fun c7 => absurd (by decide) c7)
        refine lv_iconst (v := 0) hx hb dX6_readRest_139 (by decide) ?_
        exact W.zret (ty := .boolean) hx hb hr rfl (fun t ht hW => ⟨⟨0, H4, rfl, Or.inr ⟨rfl, p2, (upd L2 o (B (a + 1) - 48)), L3, hbad, hp2, (fun k q => ⟨upd_ne q, rfl⟩), hM⟩, ht⟩, hS.F ht⟩) hS.2.2 dX6_readRest_140
    · refine lv_if_ne (tgt := 35) hx hb dX6_readRest_30 (by decide) (fun c8 => absurd c8 (by decide)) (fun c8 => ?_)
      refine lv_iconst (v := 0) hx hb dX6_readRest_33 (by decide) ?_
      exact W.zret (ty := .boolean) hx hb hr rfl (fun t ht hW => ⟨⟨0, H1, rfl, Or.inr ⟨rfl, _, L2, L3, bad_n hd0 (by decide) (by decide) (by decide) hpl hq1 (fun h => by rw [nx3, bt_n h]), hpl, (fun k q => ⟨rfl, rfl⟩), hM⟩, ht⟩, hS.F ht⟩) hS.2.2 dX6_readRest_34
  · have hd0 : dfa B (a + 1) = 2 := hd0
    refine lv_iload_n hx hb dX6_readRest_0 rfl (lv_at hl 1 rfl) ?_
    refine lv_bipush (v := 116) hx hb dX6_readRest_1 (by decide) ?_
    refine lv_icmp_ne (tgt := 11) hx hb dX6_readRest_3 (by decide) (fun c9 => ?_) (fun c9 => absurd c9 (by decide))
    refine lv_aload_n hx hb dX6_readRest_11 rfl (lv_at hl 0 rfl) ?_
    refine lv_bipush (v := 48) hx hb dX6_readRest_12 (by decide) ?_
    refine lv_iload_n hx hb dX6_readRest_14 rfl (lv_at hl 1 rfl) ?_
    refine lv_bipush (v := 102) hx hb dX6_readRest_15 (by decide) ?_
    refine lv_icmp_ne (tgt := 25) hx hb dX6_readRest_17 (by decide) (fun c10 => ?_) (fun c10 => absurd c10 (by decide))
    refine lv_bipush (v := 50) hx hb dX6_readRest_25 (by decide) ?_
    refine dp_Vi hF hK hN (c_X6_takes l D G μ R S N E P B L1 L2 L3 sm kp th la (nI len) (nI (a + 1)) (nI o) hs (a + 1) len 48 50 _ hμ hM rfl rfl hpl hl6) (cwV 2 hts gX6_readRest_X6_takes rfl rfl rfl (by decide +kernel) ⟨Nat.le_of_ble_eq_true rfl, Nat.le_of_ble_eq_true rfl⟩) (dp_recv hK hM.1 rfl) hS (fun q hq => hq) [] rfl rfl hl.1 (Nat.le_of_ble_eq_true rfl) dX6_readRest_27 ⟨Nat.le_of_ble_eq_true rfl, Nat.le_of_ble_eq_true rfl⟩ (fun rH5 H5 locs hp hzH5 hkH5 hS => ?_)
    rcases hp with ⟨rfl, hq1, hM⟩ | ⟨rfl, hq1, hM⟩
    · have hd1 : dfa B (a + 2) = 16 := (df_s hd0).trans (by rw [nx2, bt_y hq1.2])
      refine lv_if_ne (tgt := 35) hx hb dX6_readRest_30 (by decide) (fun c11 => ?_) (fun c11 => absurd c11 (by decide))
      refine lv_aload_n hx hb dX6_readRest_35 rfl (lv_at hl 0 rfl) ?_
      refine dp_get hx hb hts (dp_hin 27 rfl) hown hK hM.1 rfl 14 (by decide) (hts (.fieldLink RX6 31 "DroopBoardModel" "first" "[I") (List.mem_of_getElem? (i := 1) rfl)) rfl dX6_readRest_36 ?_
      refine lv_aload_n hx hb dX6_readRest_39 rfl (lv_at hl 0 rfl) ?_
      refine dp_get hx hb hts (dp_hin 27 rfl) hown hK hM.1 rfl 12 (by decide) (hts (.fieldLink RX6 165 "DroopBoardModel" "orders" "I") (List.mem_of_getElem? (i := 2) rfl)) rfl dX6_readRest_40 ?_
      refine lv_aload_n hx hb dX6_readRest_43 rfl (lv_at hl 0 rfl) ?_
      refine lv_iconst (v := 1) hx hb dX6_readRest_44 (by decide) ?_
      refine dp_Vi hF hK hN (c_X6_digit l D G μ R S N E P B L1 L2 L3 sm kp th la (nI len) (nI (a + 2)) (nI o) hs (a + 2) (a + 1) 1 _ hμ hM rfl (by omega) (by omega) (by decide)) (cwV 1 hts gX6_readRest_X6_digit rfl rfl rfl (by decide +kernel) ⟨Nat.le_of_ble_eq_true rfl, Nat.le_of_ble_eq_true rfl⟩) (dp_recv hK hM.1 rfl) hS nA_i [.int (nI o), .ref (μ 8)] rfl rfl hl.1 (Nat.le_of_ble_eq_true rfl) dX6_readRest_45 ⟨Nat.le_of_ble_eq_true rfl, Nat.le_of_ble_eq_true rfl⟩ (fun rH6 H6 locs hp hzH6 hkH6 hS => ?_)
      obtain ⟨rfl, rfl⟩ := hp
      refine dp_iast (A := A6 μ) hx hb hK hM.2.2.2.2.2.2.2.2.1 (⟨8, by decide, rfl⟩ : A6 μ (μ 8)) hS 0 rfl o rfl (by omega) (by decide) dX6_readRest_48 (fun H7 locs hH7 hzH7 hkH7 hS => ?_)
      have hM := hM.a8 (X' := upd L2 o (B (a + 1) - 48)) hμ hH7 hkH7
      refine lv_iload_n hx hb dX6_readRest_49 rfl (lv_at hl 1 rfl) ?_
      refine lv_bipush (v := 102) hx hb dX6_readRest_50 (by decide) ?_
      refine lv_icmp_ne (tgt := 122) hx hb dX6_readRest_52 (by decide) (fun c12 => ?_) (fun c12 => absurd c12 (by decide))
      refine lv_iload_n hx hb dX6_readRest_122 rfl (lv_at hl 1 rfl) ?_
      refine lv_bipush (v := 115) hx hb dX6_readRest_123 (by decide) ?_
      refine lv_icmp_ne (tgt := 135) hx hb dX6_readRest_125 (by decide) (fun c13 => ?_) (fun c13 => absurd c13 (by decide))
      refine lv_iconst (v := 1) hx hb dX6_readRest_135 (by decide) ?_
      refine lv_goto (tgt := 140) hx hb dX6_readRest_136 (by decide) ?_
      obtain ⟨j9, hj9, ej, en⟩ := set_nI (b := 50) (N := 50) rfl (by omega) hq1.1 hq1.2
      exact W.zret (ty := .boolean) hx hb hr rfl (fun t ht hW => ⟨⟨1, H7, rfl, Or.inl ⟨rfl, a + 2, (upd L2 o (B (a + 1) - 48)), L3, ⟨Nat.le_refl _, hq1.1, (fun k h1 h2 => by rw [show k = a + 1 by omega]; exact c_not hq1.2 (Or.inr (by decide))), (fun q => absurd q (by decide)), fun _ => ⟨j9, by omega, fun _ => by omega, upd_eq.trans ej, en⟩, (fun q => absurd q (by decide)), (fun q => absurd q (by decide))⟩, Or.inl hd1, (fun k q => ⟨upd_ne q, rfl⟩), hM⟩, ht⟩, hS.F ht⟩) hS.2.2 dX6_readRest_140
    · refine lv_if_ne (tgt := 35) hx hb dX6_readRest_30 (by decide) (fun c14 => absurd c14 (by decide)) (fun c14 => ?_)
      refine lv_iconst (v := 0) hx hb dX6_readRest_33 (by decide) ?_
      exact W.zret (ty := .boolean) hx hb hr rfl (fun t ht hW => ⟨⟨0, H5, rfl, Or.inr ⟨rfl, _, L2, L3, bad_n hd0 (by decide) (by decide) (by decide) hpl hq1 (fun h => by rw [nx2, bt_n h]), hpl, (fun k q => ⟨rfl, rfl⟩), hM⟩, ht⟩, hS.F ht⟩) hS.2.2 dX6_readRest_34
  · have hd0 : dfa B (a + 1) = 2 := hd0
    refine lv_iload_n hx hb dX6_readRest_0 rfl (lv_at hl 1 rfl) ?_
    refine lv_bipush (v := 116) hx hb dX6_readRest_1 (by decide) ?_
    refine lv_icmp_ne (tgt := 11) hx hb dX6_readRest_3 (by decide) (fun c15 => ?_) (fun c15 => absurd c15 (by decide))
    refine lv_aload_n hx hb dX6_readRest_11 rfl (lv_at hl 0 rfl) ?_
    refine lv_bipush (v := 48) hx hb dX6_readRest_12 (by decide) ?_
    refine lv_iload_n hx hb dX6_readRest_14 rfl (lv_at hl 1 rfl) ?_
    refine lv_bipush (v := 102) hx hb dX6_readRest_15 (by decide) ?_
    refine lv_icmp_ne (tgt := 25) hx hb dX6_readRest_17 (by decide) (fun c16 => ?_) (fun c16 => absurd c16 (by decide))
    refine lv_bipush (v := 50) hx hb dX6_readRest_25 (by decide) ?_
    refine dp_Vi hF hK hN (c_X6_takes l D G μ R S N E P B L1 L2 L3 sm kp th la (nI len) (nI (a + 1)) (nI o) hs (a + 1) len 48 50 _ hμ hM rfl rfl hpl hl6) (cwV 2 hts gX6_readRest_X6_takes rfl rfl rfl (by decide +kernel) ⟨Nat.le_of_ble_eq_true rfl, Nat.le_of_ble_eq_true rfl⟩) (dp_recv hK hM.1 rfl) hS (fun q hq => hq) [] rfl rfl hl.1 (Nat.le_of_ble_eq_true rfl) dX6_readRest_27 ⟨Nat.le_of_ble_eq_true rfl, Nat.le_of_ble_eq_true rfl⟩ (fun rH8 H8 locs hp hzH8 hkH8 hS => ?_)
    rcases hp with ⟨rfl, hq1, hM⟩ | ⟨rfl, hq1, hM⟩
    · have hd1 : dfa B (a + 2) = 16 := (df_s hd0).trans (by rw [nx2, bt_y hq1.2])
      refine lv_if_ne (tgt := 35) hx hb dX6_readRest_30 (by decide) (fun c17 => ?_) (fun c17 => absurd c17 (by decide))
      refine lv_aload_n hx hb dX6_readRest_35 rfl (lv_at hl 0 rfl) ?_
      refine dp_get hx hb hts (dp_hin 27 rfl) hown hK hM.1 rfl 14 (by decide) (hts (.fieldLink RX6 31 "DroopBoardModel" "first" "[I") (List.mem_of_getElem? (i := 1) rfl)) rfl dX6_readRest_36 ?_
      refine lv_aload_n hx hb dX6_readRest_39 rfl (lv_at hl 0 rfl) ?_
      refine dp_get hx hb hts (dp_hin 27 rfl) hown hK hM.1 rfl 12 (by decide) (hts (.fieldLink RX6 165 "DroopBoardModel" "orders" "I") (List.mem_of_getElem? (i := 2) rfl)) rfl dX6_readRest_40 ?_
      refine lv_aload_n hx hb dX6_readRest_43 rfl (lv_at hl 0 rfl) ?_
      refine lv_iconst (v := 1) hx hb dX6_readRest_44 (by decide) ?_
      refine dp_Vi hF hK hN (c_X6_digit l D G μ R S N E P B L1 L2 L3 sm kp th la (nI len) (nI (a + 2)) (nI o) hs (a + 2) (a + 1) 1 _ hμ hM rfl (by omega) (by omega) (by decide)) (cwV 1 hts gX6_readRest_X6_digit rfl rfl rfl (by decide +kernel) ⟨Nat.le_of_ble_eq_true rfl, Nat.le_of_ble_eq_true rfl⟩) (dp_recv hK hM.1 rfl) hS nA_i [.int (nI o), .ref (μ 8)] rfl rfl hl.1 (Nat.le_of_ble_eq_true rfl) dX6_readRest_45 ⟨Nat.le_of_ble_eq_true rfl, Nat.le_of_ble_eq_true rfl⟩ (fun rH9 H9 locs hp hzH9 hkH9 hS => ?_)
      obtain ⟨rfl, rfl⟩ := hp
      refine dp_iast (A := A6 μ) hx hb hK hM.2.2.2.2.2.2.2.2.1 (⟨8, by decide, rfl⟩ : A6 μ (μ 8)) hS 0 rfl o rfl (by omega) (by decide) dX6_readRest_48 (fun H10 locs hH10 hzH10 hkH10 hS => ?_)
      have hM := hM.a8 (X' := upd L2 o (B (a + 1) - 48)) hμ hH10 hkH10
      refine lv_iload_n hx hb dX6_readRest_49 rfl (lv_at hl 1 rfl) ?_
      refine lv_bipush (v := 102) hx hb dX6_readRest_50 (by decide) ?_
      refine lv_icmp_ne (tgt := 122) hx hb dX6_readRest_52 (by decide) (fun c18 => ?_) (fun c18 => absurd c18 (by decide))
      refine lv_iload_n hx hb dX6_readRest_122 rfl (lv_at hl 1 rfl) ?_
      refine lv_bipush (v := 115) hx hb dX6_readRest_123 (by decide) ?_
      refine lv_icmp_ne (tgt := 135) hx hb dX6_readRest_125 (by decide) (fun c19 => ?_) (fun c19 => absurd c19 (by decide))
      refine lv_iconst (v := 1) hx hb dX6_readRest_135 (by decide) ?_
      refine lv_goto (tgt := 140) hx hb dX6_readRest_136 (by decide) ?_
      obtain ⟨j9, hj9, ej, en⟩ := set_nI (b := 50) (N := 50) rfl (by omega) hq1.1 hq1.2
      exact W.zret (ty := .boolean) hx hb hr rfl (fun t ht hW => ⟨⟨1, H10, rfl, Or.inl ⟨rfl, a + 2, (upd L2 o (B (a + 1) - 48)), L3, ⟨Nat.le_refl _, hq1.1, (fun k h1 h2 => by rw [show k = a + 1 by omega]; exact c_not hq1.2 (Or.inr (by decide))), (fun q => absurd q (by decide)), fun _ => ⟨j9, by omega, fun _ => by omega, upd_eq.trans ej, en⟩, (fun q => absurd q (by decide)), (fun q => absurd q (by decide))⟩, Or.inl hd1, (fun k q => ⟨upd_ne q, rfl⟩), hM⟩, ht⟩, hS.F ht⟩) hS.2.2 dX6_readRest_140
    · refine lv_if_ne (tgt := 35) hx hb dX6_readRest_30 (by decide) (fun c20 => absurd c20 (by decide)) (fun c20 => ?_)
      refine lv_iconst (v := 0) hx hb dX6_readRest_33 (by decide) ?_
      exact W.zret (ty := .boolean) hx hb hr rfl (fun t ht hW => ⟨⟨0, H8, rfl, Or.inr ⟨rfl, _, L2, L3, bad_n hd0 (by decide) (by decide) (by decide) hpl hq1 (fun h => by rw [nx2, bt_n h]), hpl, (fun k q => ⟨rfl, rfl⟩), hM⟩, ht⟩, hS.F ht⟩) hS.2.2 dX6_readRest_34
  · have hd0 : dfa B (a + 1) = 2 := hd0
    refine lv_iload_n hx hb dX6_readRest_0 rfl (lv_at hl 1 rfl) ?_
    refine lv_bipush (v := 116) hx hb dX6_readRest_1 (by decide) ?_
    refine lv_icmp_ne (tgt := 11) hx hb dX6_readRest_3 (by decide) (fun c21 => ?_) (fun c21 => absurd c21 (by decide))
    refine lv_aload_n hx hb dX6_readRest_11 rfl (lv_at hl 0 rfl) ?_
    refine lv_bipush (v := 48) hx hb dX6_readRest_12 (by decide) ?_
    refine lv_iload_n hx hb dX6_readRest_14 rfl (lv_at hl 1 rfl) ?_
    refine lv_bipush (v := 102) hx hb dX6_readRest_15 (by decide) ?_
    refine lv_icmp_ne (tgt := 25) hx hb dX6_readRest_17 (by decide) (fun c22 => ?_) (fun c22 => absurd c22 (by decide))
    refine lv_bipush (v := 50) hx hb dX6_readRest_25 (by decide) ?_
    refine dp_Vi hF hK hN (c_X6_takes l D G μ R S N E P B L1 L2 L3 sm kp th la (nI len) (nI (a + 1)) (nI o) hs (a + 1) len 48 50 _ hμ hM rfl rfl hpl hl6) (cwV 2 hts gX6_readRest_X6_takes rfl rfl rfl (by decide +kernel) ⟨Nat.le_of_ble_eq_true rfl, Nat.le_of_ble_eq_true rfl⟩) (dp_recv hK hM.1 rfl) hS (fun q hq => hq) [] rfl rfl hl.1 (Nat.le_of_ble_eq_true rfl) dX6_readRest_27 ⟨Nat.le_of_ble_eq_true rfl, Nat.le_of_ble_eq_true rfl⟩ (fun rH11 H11 locs hp hzH11 hkH11 hS => ?_)
    rcases hp with ⟨rfl, hq1, hM⟩ | ⟨rfl, hq1, hM⟩
    · have hd1 : dfa B (a + 2) = 16 := (df_s hd0).trans (by rw [nx2, bt_y hq1.2])
      refine lv_if_ne (tgt := 35) hx hb dX6_readRest_30 (by decide) (fun c23 => ?_) (fun c23 => absurd c23 (by decide))
      refine lv_aload_n hx hb dX6_readRest_35 rfl (lv_at hl 0 rfl) ?_
      refine dp_get hx hb hts (dp_hin 27 rfl) hown hK hM.1 rfl 14 (by decide) (hts (.fieldLink RX6 31 "DroopBoardModel" "first" "[I") (List.mem_of_getElem? (i := 1) rfl)) rfl dX6_readRest_36 ?_
      refine lv_aload_n hx hb dX6_readRest_39 rfl (lv_at hl 0 rfl) ?_
      refine dp_get hx hb hts (dp_hin 27 rfl) hown hK hM.1 rfl 12 (by decide) (hts (.fieldLink RX6 165 "DroopBoardModel" "orders" "I") (List.mem_of_getElem? (i := 2) rfl)) rfl dX6_readRest_40 ?_
      refine lv_aload_n hx hb dX6_readRest_43 rfl (lv_at hl 0 rfl) ?_
      refine lv_iconst (v := 1) hx hb dX6_readRest_44 (by decide) ?_
      refine dp_Vi hF hK hN (c_X6_digit l D G μ R S N E P B L1 L2 L3 sm kp th la (nI len) (nI (a + 2)) (nI o) hs (a + 2) (a + 1) 1 _ hμ hM rfl (by omega) (by omega) (by decide)) (cwV 1 hts gX6_readRest_X6_digit rfl rfl rfl (by decide +kernel) ⟨Nat.le_of_ble_eq_true rfl, Nat.le_of_ble_eq_true rfl⟩) (dp_recv hK hM.1 rfl) hS nA_i [.int (nI o), .ref (μ 8)] rfl rfl hl.1 (Nat.le_of_ble_eq_true rfl) dX6_readRest_45 ⟨Nat.le_of_ble_eq_true rfl, Nat.le_of_ble_eq_true rfl⟩ (fun rH12 H12 locs hp hzH12 hkH12 hS => ?_)
      obtain ⟨rfl, rfl⟩ := hp
      refine dp_iast (A := A6 μ) hx hb hK hM.2.2.2.2.2.2.2.2.1 (⟨8, by decide, rfl⟩ : A6 μ (μ 8)) hS 0 rfl o rfl (by omega) (by decide) dX6_readRest_48 (fun H13 locs hH13 hzH13 hkH13 hS => ?_)
      have hM := hM.a8 (X' := upd L2 o (B (a + 1) - 48)) hμ hH13 hkH13
      refine lv_iload_n hx hb dX6_readRest_49 rfl (lv_at hl 1 rfl) ?_
      refine lv_bipush (v := 102) hx hb dX6_readRest_50 (by decide) ?_
      refine lv_icmp_ne (tgt := 122) hx hb dX6_readRest_52 (by decide) (fun c24 => ?_) (fun c24 => absurd c24 (by decide))
      refine lv_iload_n hx hb dX6_readRest_122 rfl (lv_at hl 1 rfl) ?_
      refine lv_bipush (v := 115) hx hb dX6_readRest_123 (by decide) ?_
      refine lv_icmp_ne (tgt := 135) hx hb dX6_readRest_125 (by decide) (fun c25 => ?_) (fun c25 => absurd c25 (by decide))
      refine lv_iconst (v := 1) hx hb dX6_readRest_135 (by decide) ?_
      refine lv_goto (tgt := 140) hx hb dX6_readRest_136 (by decide) ?_
      obtain ⟨j9, hj9, ej, en⟩ := set_nI (b := 50) (N := 50) rfl (by omega) hq1.1 hq1.2
      exact W.zret (ty := .boolean) hx hb hr rfl (fun t ht hW => ⟨⟨1, H13, rfl, Or.inl ⟨rfl, a + 2, (upd L2 o (B (a + 1) - 48)), L3, ⟨Nat.le_refl _, hq1.1, (fun k h1 h2 => by rw [show k = a + 1 by omega]; exact c_not hq1.2 (Or.inr (by decide))), (fun q => absurd q (by decide)), fun _ => ⟨j9, by omega, fun _ => by omega, upd_eq.trans ej, en⟩, (fun q => absurd q (by decide)), (fun q => absurd q (by decide))⟩, Or.inl hd1, (fun k q => ⟨upd_ne q, rfl⟩), hM⟩, ht⟩, hS.F ht⟩) hS.2.2 dX6_readRest_140
    · refine lv_if_ne (tgt := 35) hx hb dX6_readRest_30 (by decide) (fun c26 => absurd c26 (by decide)) (fun c26 => ?_)
      refine lv_iconst (v := 0) hx hb dX6_readRest_33 (by decide) ?_
      exact W.zret (ty := .boolean) hx hb hr rfl (fun t ht hW => ⟨⟨0, H11, rfl, Or.inr ⟨rfl, _, L2, L3, bad_n hd0 (by decide) (by decide) (by decide) hpl hq1 (fun h => by rw [nx2, bt_n h]), hpl, (fun k q => ⟨rfl, rfl⟩), hM⟩, ht⟩, hS.F ht⟩) hS.2.2 dX6_readRest_34
  · have hd0 : dfa B (a + 1) = 2 := hd0
    refine lv_iload_n hx hb dX6_readRest_0 rfl (lv_at hl 1 rfl) ?_
    refine lv_bipush (v := 116) hx hb dX6_readRest_1 (by decide) ?_
    refine lv_icmp_ne (tgt := 11) hx hb dX6_readRest_3 (by decide) (fun c27 => ?_) (fun c27 => absurd c27 (by decide))
    refine lv_aload_n hx hb dX6_readRest_11 rfl (lv_at hl 0 rfl) ?_
    refine lv_bipush (v := 48) hx hb dX6_readRest_12 (by decide) ?_
    refine lv_iload_n hx hb dX6_readRest_14 rfl (lv_at hl 1 rfl) ?_
    refine lv_bipush (v := 102) hx hb dX6_readRest_15 (by decide) ?_
    refine lv_icmp_ne (tgt := 25) hx hb dX6_readRest_17 (by decide) (fun c28 => ?_) (fun c28 => absurd c28 (by decide))
    refine lv_bipush (v := 50) hx hb dX6_readRest_25 (by decide) ?_
    refine dp_Vi hF hK hN (c_X6_takes l D G μ R S N E P B L1 L2 L3 sm kp th la (nI len) (nI (a + 1)) (nI o) hs (a + 1) len 48 50 _ hμ hM rfl rfl hpl hl6) (cwV 2 hts gX6_readRest_X6_takes rfl rfl rfl (by decide +kernel) ⟨Nat.le_of_ble_eq_true rfl, Nat.le_of_ble_eq_true rfl⟩) (dp_recv hK hM.1 rfl) hS (fun q hq => hq) [] rfl rfl hl.1 (Nat.le_of_ble_eq_true rfl) dX6_readRest_27 ⟨Nat.le_of_ble_eq_true rfl, Nat.le_of_ble_eq_true rfl⟩ (fun rH14 H14 locs hp hzH14 hkH14 hS => ?_)
    rcases hp with ⟨rfl, hq1, hM⟩ | ⟨rfl, hq1, hM⟩
    · have hd1 : dfa B (a + 2) = 16 := (df_s hd0).trans (by rw [nx2, bt_y hq1.2])
      refine lv_if_ne (tgt := 35) hx hb dX6_readRest_30 (by decide) (fun c29 => ?_) (fun c29 => absurd c29 (by decide))
      refine lv_aload_n hx hb dX6_readRest_35 rfl (lv_at hl 0 rfl) ?_
      refine dp_get hx hb hts (dp_hin 27 rfl) hown hK hM.1 rfl 14 (by decide) (hts (.fieldLink RX6 31 "DroopBoardModel" "first" "[I") (List.mem_of_getElem? (i := 1) rfl)) rfl dX6_readRest_36 ?_
      refine lv_aload_n hx hb dX6_readRest_39 rfl (lv_at hl 0 rfl) ?_
      refine dp_get hx hb hts (dp_hin 27 rfl) hown hK hM.1 rfl 12 (by decide) (hts (.fieldLink RX6 165 "DroopBoardModel" "orders" "I") (List.mem_of_getElem? (i := 2) rfl)) rfl dX6_readRest_40 ?_
      refine lv_aload_n hx hb dX6_readRest_43 rfl (lv_at hl 0 rfl) ?_
      refine lv_iconst (v := 1) hx hb dX6_readRest_44 (by decide) ?_
      refine dp_Vi hF hK hN (c_X6_digit l D G μ R S N E P B L1 L2 L3 sm kp th la (nI len) (nI (a + 2)) (nI o) hs (a + 2) (a + 1) 1 _ hμ hM rfl (by omega) (by omega) (by decide)) (cwV 1 hts gX6_readRest_X6_digit rfl rfl rfl (by decide +kernel) ⟨Nat.le_of_ble_eq_true rfl, Nat.le_of_ble_eq_true rfl⟩) (dp_recv hK hM.1 rfl) hS nA_i [.int (nI o), .ref (μ 8)] rfl rfl hl.1 (Nat.le_of_ble_eq_true rfl) dX6_readRest_45 ⟨Nat.le_of_ble_eq_true rfl, Nat.le_of_ble_eq_true rfl⟩ (fun rH15 H15 locs hp hzH15 hkH15 hS => ?_)
      obtain ⟨rfl, rfl⟩ := hp
      refine dp_iast (A := A6 μ) hx hb hK hM.2.2.2.2.2.2.2.2.1 (⟨8, by decide, rfl⟩ : A6 μ (μ 8)) hS 0 rfl o rfl (by omega) (by decide) dX6_readRest_48 (fun H16 locs hH16 hzH16 hkH16 hS => ?_)
      have hM := hM.a8 (X' := upd L2 o (B (a + 1) - 48)) hμ hH16 hkH16
      refine lv_iload_n hx hb dX6_readRest_49 rfl (lv_at hl 1 rfl) ?_
      refine lv_bipush (v := 102) hx hb dX6_readRest_50 (by decide) ?_
      refine lv_icmp_ne (tgt := 122) hx hb dX6_readRest_52 (by decide) (fun c30 => ?_) (fun c30 => absurd c30 (by decide))
      refine lv_iload_n hx hb dX6_readRest_122 rfl (lv_at hl 1 rfl) ?_
      refine lv_bipush (v := 115) hx hb dX6_readRest_123 (by decide) ?_
      refine lv_icmp_ne (tgt := 135) hx hb dX6_readRest_125 (by decide) (fun c31 => ?_) (fun c31 => absurd c31 (by decide))
      refine lv_iconst (v := 1) hx hb dX6_readRest_135 (by decide) ?_
      refine lv_goto (tgt := 140) hx hb dX6_readRest_136 (by decide) ?_
      obtain ⟨j9, hj9, ej, en⟩ := set_nI (b := 50) (N := 50) rfl (by omega) hq1.1 hq1.2
      exact W.zret (ty := .boolean) hx hb hr rfl (fun t ht hW => ⟨⟨1, H16, rfl, Or.inl ⟨rfl, a + 2, (upd L2 o (B (a + 1) - 48)), L3, ⟨Nat.le_refl _, hq1.1, (fun k h1 h2 => by rw [show k = a + 1 by omega]; exact c_not hq1.2 (Or.inr (by decide))), (fun q => absurd q (by decide)), fun _ => ⟨j9, by omega, fun _ => by omega, upd_eq.trans ej, en⟩, (fun q => absurd q (by decide)), (fun q => absurd q (by decide))⟩, Or.inl hd1, (fun k q => ⟨upd_ne q, rfl⟩), hM⟩, ht⟩, hS.F ht⟩) hS.2.2 dX6_readRest_140
    · refine lv_if_ne (tgt := 35) hx hb dX6_readRest_30 (by decide) (fun c32 => absurd c32 (by decide)) (fun c32 => ?_)
      refine lv_iconst (v := 0) hx hb dX6_readRest_33 (by decide) ?_
      exact W.zret (ty := .boolean) hx hb hr rfl (fun t ht hW => ⟨⟨0, H14, rfl, Or.inr ⟨rfl, _, L2, L3, bad_n hd0 (by decide) (by decide) (by decide) hpl hq1 (fun h => by rw [nx2, bt_n h]), hpl, (fun k q => ⟨rfl, rfl⟩), hM⟩, ht⟩, hS.F ht⟩) hS.2.2 dX6_readRest_34
  · have hd0 : dfa B (a + 1) = 12 := hd0
    refine lv_iload_n hx hb dX6_readRest_0 rfl (lv_at hl 1 rfl) ?_
    refine lv_bipush (v := 116) hx hb dX6_readRest_1 (by decide) ?_
    refine lv_icmp_ne (tgt := 11) hx hb dX6_readRest_3 (by decide) (fun c33 => ?_) (fun c33 => absurd c33 (by decide))
    refine lv_aload_n hx hb dX6_readRest_11 rfl (lv_at hl 0 rfl) ?_
    refine lv_bipush (v := 48) hx hb dX6_readRest_12 (by decide) ?_
    refine lv_iload_n hx hb dX6_readRest_14 rfl (lv_at hl 1 rfl) ?_
    refine lv_bipush (v := 102) hx hb dX6_readRest_15 (by decide) ?_
    refine lv_icmp_ne (tgt := 25) hx hb dX6_readRest_17 (by decide) (fun c34 => absurd c34 (by decide)) (fun c34 => ?_)
    refine lv_bipush (v := 51) hx hb dX6_readRest_20 (by decide) ?_
    refine lv_goto (tgt := 27) hx hb dX6_readRest_22 (by decide) ?_
    refine dp_Vi hF hK hN (c_X6_takes l D G μ R S N E P B L1 L2 L3 sm kp th la (nI len) (nI (a + 1)) (nI o) hs (a + 1) len 48 51 _ hμ hM rfl rfl hpl hl6) (cwV 2 hts gX6_readRest_X6_takes rfl rfl rfl (by decide +kernel) ⟨Nat.le_of_ble_eq_true rfl, Nat.le_of_ble_eq_true rfl⟩) (dp_recv hK hM.1 rfl) hS (fun q hq => hq) [] rfl rfl hl.1 (Nat.le_of_ble_eq_true rfl) dX6_readRest_27 ⟨Nat.le_of_ble_eq_true rfl, Nat.le_of_ble_eq_true rfl⟩ (fun rH17 H17 locs hp hzH17 hkH17 hS => ?_)
    rcases hp with ⟨rfl, hq1, hM⟩ | ⟨rfl, hq1, hM⟩
    · have hd1 : dfa B (a + 2) = 13 := (df_s hd0).trans (by rw [nx12, bt_y hq1.2])
      refine lv_if_ne (tgt := 35) hx hb dX6_readRest_30 (by decide) (fun c35 => ?_) (fun c35 => absurd c35 (by decide))
      refine lv_aload_n hx hb dX6_readRest_35 rfl (lv_at hl 0 rfl) ?_
      refine dp_get hx hb hts (dp_hin 27 rfl) hown hK hM.1 rfl 14 (by decide) (hts (.fieldLink RX6 31 "DroopBoardModel" "first" "[I") (List.mem_of_getElem? (i := 1) rfl)) rfl dX6_readRest_36 ?_
      refine lv_aload_n hx hb dX6_readRest_39 rfl (lv_at hl 0 rfl) ?_
      refine dp_get hx hb hts (dp_hin 27 rfl) hown hK hM.1 rfl 12 (by decide) (hts (.fieldLink RX6 165 "DroopBoardModel" "orders" "I") (List.mem_of_getElem? (i := 2) rfl)) rfl dX6_readRest_40 ?_
      refine lv_aload_n hx hb dX6_readRest_43 rfl (lv_at hl 0 rfl) ?_
      refine lv_iconst (v := 1) hx hb dX6_readRest_44 (by decide) ?_
      refine dp_Vi hF hK hN (c_X6_digit l D G μ R S N E P B L1 L2 L3 sm kp th la (nI len) (nI (a + 2)) (nI o) hs (a + 2) (a + 1) 1 _ hμ hM rfl (by omega) (by omega) (by decide)) (cwV 1 hts gX6_readRest_X6_digit rfl rfl rfl (by decide +kernel) ⟨Nat.le_of_ble_eq_true rfl, Nat.le_of_ble_eq_true rfl⟩) (dp_recv hK hM.1 rfl) hS nA_i [.int (nI o), .ref (μ 8)] rfl rfl hl.1 (Nat.le_of_ble_eq_true rfl) dX6_readRest_45 ⟨Nat.le_of_ble_eq_true rfl, Nat.le_of_ble_eq_true rfl⟩ (fun rH18 H18 locs hp hzH18 hkH18 hS => ?_)
      obtain ⟨rfl, rfl⟩ := hp
      refine dp_iast (A := A6 μ) hx hb hK hM.2.2.2.2.2.2.2.2.1 (⟨8, by decide, rfl⟩ : A6 μ (μ 8)) hS 0 rfl o rfl (by omega) (by decide) dX6_readRest_48 (fun H19 locs hH19 hzH19 hkH19 hS => ?_)
      have hM := hM.a8 (X' := upd L2 o (B (a + 1) - 48)) hμ hH19 hkH19
      refine lv_iload_n hx hb dX6_readRest_49 rfl (lv_at hl 1 rfl) ?_
      refine lv_bipush (v := 102) hx hb dX6_readRest_50 (by decide) ?_
      refine lv_icmp_ne (tgt := 122) hx hb dX6_readRest_52 (by decide) (fun c36 => absurd c36 (by decide)) (fun c36 => ?_)
      refine lv_aload_n hx hb dX6_readRest_55 rfl (lv_at hl 0 rfl) ?_
      refine dp_get hx hb hts (dp_hin 27 rfl) hown hK hM.1 rfl 15 (by decide) (hts (.fieldLink RX6 34 "DroopBoardModel" "second" "[I") (List.mem_of_getElem? (i := 3) rfl)) rfl dX6_readRest_56 ?_
      refine lv_aload_n hx hb dX6_readRest_59 rfl (lv_at hl 0 rfl) ?_
      refine dp_get hx hb hts (dp_hin 27 rfl) hown hK hM.1 rfl 12 (by decide) (hts (.fieldLink RX6 165 "DroopBoardModel" "orders" "I") (List.mem_of_getElem? (i := 2) rfl)) rfl dX6_readRest_60 ?_
      refine lv_aload_n hx hb dX6_readRest_63 rfl (lv_at hl 0 rfl) ?_
      refine dp_get hx hb hts (dp_hin 27 rfl) hown hK hM.1 rfl 11 (by decide) (hts (.fieldLink RX6 156 "DroopBoardModel" "spot" "I") (List.mem_of_getElem? (i := 4) rfl)) rfl dX6_readRest_64 ?_
      refine lv_aload_n hx hb dX6_readRest_67 rfl (lv_at hl 0 rfl) ?_
      refine dp_get hx hb hts (dp_hin 27 rfl) hown hK hM.1 rfl 10 (by decide) (hts (.fieldLink RX6 153 "DroopBoardModel" "length" "I") (List.mem_of_getElem? (i := 5) rfl)) rfl dX6_readRest_68 ?_
      refine lv_icmp_ge (tgt := 92) hx hb dX6_readRest_71 (by decide) (fun c37 => ?_) (fun c37 => ?_)
      · refine lv_iconst (v := 0) hx hb dX6_readRest_92 (by decide) ?_
        refine dp_iast (A := A6 μ) hx hb hK hM.2.2.2.2.2.2.2.2.2 (⟨9, by decide, rfl⟩ : A6 μ (μ 9)) hS 0 rfl o rfl (by omega) (by decide) dX6_readRest_93 (fun H20 locs hH20 hzH20 hkH20 hS => ?_)
        have hM := hM.a9 (X' := upd L3 o 0) hμ hH20 hkH20
        refine lv_aload_n hx hb dX6_readRest_94 rfl (lv_at hl 0 rfl) ?_
        refine lv_bipush (v := 43) hx hb dX6_readRest_95 (by decide) ?_
        refine lv_bipush (v := 43) hx hb dX6_readRest_97 (by decide) ?_
        refine dp_Vi hF hK hN (c_X6_takes l D G μ R S N E P B L1 (upd L2 o (B (a + 1) - 48)) (upd L3 o 0) sm kp th la (nI len) (nI (a + 2)) (nI o) hs (a + 2) len 43 43 _ hμ hM rfl rfl hq1.1 hl6) (cwV 2 hts gX6_readRest_X6_takes rfl rfl rfl (by decide +kernel) ⟨Nat.le_of_ble_eq_true rfl, Nat.le_of_ble_eq_true rfl⟩) (dp_recv hK hM.1 rfl) hS (fun q hq => hq) [] rfl rfl hl.1 (Nat.le_of_ble_eq_true rfl) dX6_readRest_99 ⟨Nat.le_of_ble_eq_true rfl, Nat.le_of_ble_eq_true rfl⟩ (fun rH21 H21 locs hp hzH21 hkH21 hS => ?_)
        rcases hp with ⟨rfl, hq2, hM⟩ | ⟨rfl, hq2, hM⟩
        · have hd2 : dfa B (a + 3) = 16 := (df_s hd1).trans (by rw [show B (a + 2) = 43 from c_one hq2.2]; rfl)
          refine lv_if_ne (tgt := 116) hx hb dX6_readRest_102 (by decide) (fun c38 => ?_) (fun c38 => absurd c38 (by decide))
          refine lv_iconst (v := 1) hx hb dX6_readRest_116 (by decide) ?_
          refine lv_goto (tgt := 121) hx hb dX6_readRest_117 (by decide) ?_
          obtain ⟨j9, hj9, ej, en⟩ := set_nI (b := 51) (N := 51) rfl (by omega) hq1.1 hq1.2
          exact W.zret (ty := .boolean) hx hb hr rfl (fun t ht hW => ⟨⟨1, H21, rfl, Or.inl ⟨rfl, a + 3, (upd L2 o (B (a + 1) - 48)), (upd L3 o 0), ⟨by omega, hq2.1, (fun k h1 h2 => by by_cases w : k = a + 1; rw [w]; exact c_not hq1.2 (Or.inr (by decide)); rw [show k = a + 2 by omega]; exact c_not hq2.2 (Or.inr (by decide))), (fun q => absurd q (by decide)), fun _ => ⟨j9, by omega, fun q => absurd rfl q, upd_eq.trans ej, en⟩, fun _ => by rw [upd_eq, cod_out (ge_sp hl6 hq1.1 c37)]; rfl, (fun q => absurd q (by decide))⟩, Or.inl hd2, (fun k q => ⟨upd_ne q, upd_ne q⟩), hM⟩, ht⟩, hS.F ht⟩) hS.2.2 dX6_readRest_121
        · refine lv_if_ne (tgt := 116) hx hb dX6_readRest_102 (by decide) (fun c39 => absurd c39 (by decide)) (fun c39 => ?_)
          refine lv_aload_n hx hb dX6_readRest_105 rfl (lv_at hl 0 rfl) ?_
          refine lv_bipush (v := 45) hx hb dX6_readRest_106 (by decide) ?_
          refine lv_bipush (v := 45) hx hb dX6_readRest_108 (by decide) ?_
          refine dp_Vi hF hK hN (c_X6_takes l D G μ R S N E P B L1 (upd L2 o (B (a + 1) - 48)) (upd L3 o 0) sm kp th la (nI len) (nI (a + 2)) (nI o) hs (a + 2) len 45 45 _ hμ hM rfl rfl hq1.1 hl6) (cwV 2 hts gX6_readRest_X6_takes rfl rfl rfl (by decide +kernel) ⟨Nat.le_of_ble_eq_true rfl, Nat.le_of_ble_eq_true rfl⟩) (dp_recv hK hM.1 rfl) hS (fun q hq => hq) [] rfl rfl hl.1 (Nat.le_of_ble_eq_true rfl) dX6_readRest_110 ⟨Nat.le_of_ble_eq_true rfl, Nat.le_of_ble_eq_true rfl⟩ (fun rH22 H22 locs hp hzH22 hkH22 hS => ?_)
          rcases hp with ⟨rfl, hq3, hM⟩ | ⟨rfl, hq3, hM⟩
          · have hd3 : dfa B (a + 3) = 16 := (df_s hd1).trans (by rw [show B (a + 2) = 45 from c_one hq3.2]; rfl)
            refine lv_if_eq (tgt := 120) hx hb dX6_readRest_113 (by decide) (fun c40 => absurd c40 (by decide)) (fun c40 => ?_)
            refine lv_iconst (v := 1) hx hb dX6_readRest_116 (by decide) ?_
            refine lv_goto (tgt := 121) hx hb dX6_readRest_117 (by decide) ?_
            obtain ⟨j9, hj9, ej, en⟩ := set_nI (b := 51) (N := 51) rfl (by omega) hq1.1 hq1.2
            exact W.zret (ty := .boolean) hx hb hr rfl (fun t ht hW => ⟨⟨1, H22, rfl, Or.inl ⟨rfl, a + 3, (upd L2 o (B (a + 1) - 48)), (upd L3 o 0), ⟨by omega, hq3.1, (fun k h1 h2 => by by_cases w : k = a + 1; rw [w]; exact c_not hq1.2 (Or.inr (by decide)); rw [show k = a + 2 by omega]; exact c_not hq3.2 (Or.inr (by decide))), (fun q => absurd q (by decide)), fun _ => ⟨j9, by omega, fun q => absurd rfl q, upd_eq.trans ej, en⟩, fun _ => by rw [upd_eq, cod_out (ge_sp hl6 hq1.1 c37)]; rfl, (fun q => absurd q (by decide))⟩, Or.inl hd3, (fun k q => ⟨upd_ne q, upd_ne q⟩), hM⟩, ht⟩, hS.F ht⟩) hS.2.2 dX6_readRest_121
          · refine lv_if_eq (tgt := 120) hx hb dX6_readRest_113 (by decide) (fun c41 => ?_) (fun c41 => absurd (by decide) c41)
            refine lv_iconst (v := 0) hx hb dX6_readRest_120 (by decide) ?_
            exact W.zret (ty := .boolean) hx hb hr rfl (fun t ht hW => ⟨⟨0, H22, rfl, Or.inr ⟨rfl, _, (upd L2 o (B (a + 1) - 48)), (upd L3 o 0), bad_n hd1 (by decide) (by decide) (by decide) hq1.1 (or_q hq2 hq3) (fun h => n13_n h), hq1.1, (fun k q => ⟨upd_ne q, upd_ne q⟩), hM⟩, ht⟩, hS.F ht⟩) hS.2.2 dX6_readRest_121
      have hp2 : a + 2 < len := lt_sp hl6 hq1.1 c37
      refine lv_aload_n hx hb dX6_readRest_74 rfl (lv_at hl 0 rfl) ?_
      refine dp_get hx hb hts (dp_hin 27 rfl) hown hK hM.1 rfl 9 (by decide) (hts (.fieldLink RX6 25 "DroopBoardModel" "buffer" "[I") (List.mem_of_getElem? (i := 6) rfl)) rfl dX6_readRest_75 ?_
      refine lv_aload_n hx hb dX6_readRest_78 rfl (lv_at hl 0 rfl) ?_
      refine dp_get hx hb hts (dp_hin 27 rfl) hown hK hM.1 rfl 11 (by decide) (hts (.fieldLink RX6 156 "DroopBoardModel" "spot" "I") (List.mem_of_getElem? (i := 4) rfl)) rfl dX6_readRest_79 ?_
      refine dp_iald hx hb hK hM.2.2.2.2.2.2.1 0 rfl ((a + 2)) rfl (by omega) (by decide) dX6_readRest_82 ?_
      refine lv_bipush (v := 43) hx hb dX6_readRest_83 (by decide) ?_
      refine lv_icmp_ne (tgt := 92) hx hb dX6_readRest_85 (by decide) (fun c42 => ?_) (fun c42 => ?_)
      · refine lv_iconst (v := 0) hx hb dX6_readRest_92 (by decide) ?_
        refine dp_iast (A := A6 μ) hx hb hK hM.2.2.2.2.2.2.2.2.2 (⟨9, by decide, rfl⟩ : A6 μ (μ 9)) hS 0 rfl o rfl (by omega) (by decide) dX6_readRest_93 (fun H23 locs hH23 hzH23 hkH23 hS => ?_)
        have hM := hM.a9 (X' := upd L3 o 0) hμ hH23 hkH23
        refine lv_aload_n hx hb dX6_readRest_94 rfl (lv_at hl 0 rfl) ?_
        refine lv_bipush (v := 43) hx hb dX6_readRest_95 (by decide) ?_
        refine lv_bipush (v := 43) hx hb dX6_readRest_97 (by decide) ?_
        refine dp_Vi hF hK hN (c_X6_takes l D G μ R S N E P B L1 (upd L2 o (B (a + 1) - 48)) (upd L3 o 0) sm kp th la (nI len) (nI (a + 2)) (nI o) hs (a + 2) len 43 43 _ hμ hM rfl rfl hq1.1 hl6) (cwV 2 hts gX6_readRest_X6_takes rfl rfl rfl (by decide +kernel) ⟨Nat.le_of_ble_eq_true rfl, Nat.le_of_ble_eq_true rfl⟩) (dp_recv hK hM.1 rfl) hS (fun q hq => hq) [] rfl rfl hl.1 (Nat.le_of_ble_eq_true rfl) dX6_readRest_99 ⟨Nat.le_of_ble_eq_true rfl, Nat.le_of_ble_eq_true rfl⟩ (fun rH24 H24 locs hp hzH24 hkH24 hS => ?_)
        rcases hp with ⟨rfl, hq4, hM⟩ | ⟨rfl, hq4, hM⟩
        · have hd4 : dfa B (a + 3) = 16 := (df_s hd1).trans (by rw [show B (a + 2) = 43 from c_one hq4.2]; rfl)
          refine lv_if_ne (tgt := 116) hx hb dX6_readRest_102 (by decide) (fun c43 => ?_) (fun c43 => absurd c43 (by decide))
          refine lv_iconst (v := 1) hx hb dX6_readRest_116 (by decide) ?_
          refine lv_goto (tgt := 121) hx hb dX6_readRest_117 (by decide) ?_
          obtain ⟨j9, hj9, ej, en⟩ := set_nI (b := 51) (N := 51) rfl (by omega) hq1.1 hq1.2
          exact W.zret (ty := .boolean) hx hb hr rfl (fun t ht hW => ⟨⟨1, H24, rfl, Or.inl ⟨rfl, a + 3, (upd L2 o (B (a + 1) - 48)), (upd L3 o 0), ⟨by omega, hq4.1, (fun k h1 h2 => by by_cases w : k = a + 1; rw [w]; exact c_not hq1.2 (Or.inr (by decide)); rw [show k = a + 2 by omega]; exact c_not hq4.2 (Or.inr (by decide))), (fun q => absurd q (by decide)), fun _ => ⟨j9, by omega, fun q => absurd rfl q, upd_eq.trans ej, en⟩, fun _ => by rw [upd_eq, cod_in hp2, if_neg c42], (fun q => absurd q (by decide))⟩, Or.inl hd4, (fun k q => ⟨upd_ne q, upd_ne q⟩), hM⟩, ht⟩, hS.F ht⟩) hS.2.2 dX6_readRest_121
        · refine lv_if_ne (tgt := 116) hx hb dX6_readRest_102 (by decide) (fun c44 => absurd c44 (by decide)) (fun c44 => ?_)
          refine lv_aload_n hx hb dX6_readRest_105 rfl (lv_at hl 0 rfl) ?_
          refine lv_bipush (v := 45) hx hb dX6_readRest_106 (by decide) ?_
          refine lv_bipush (v := 45) hx hb dX6_readRest_108 (by decide) ?_
          refine dp_Vi hF hK hN (c_X6_takes l D G μ R S N E P B L1 (upd L2 o (B (a + 1) - 48)) (upd L3 o 0) sm kp th la (nI len) (nI (a + 2)) (nI o) hs (a + 2) len 45 45 _ hμ hM rfl rfl hq1.1 hl6) (cwV 2 hts gX6_readRest_X6_takes rfl rfl rfl (by decide +kernel) ⟨Nat.le_of_ble_eq_true rfl, Nat.le_of_ble_eq_true rfl⟩) (dp_recv hK hM.1 rfl) hS (fun q hq => hq) [] rfl rfl hl.1 (Nat.le_of_ble_eq_true rfl) dX6_readRest_110 ⟨Nat.le_of_ble_eq_true rfl, Nat.le_of_ble_eq_true rfl⟩ (fun rH25 H25 locs hp hzH25 hkH25 hS => ?_)
          rcases hp with ⟨rfl, hq5, hM⟩ | ⟨rfl, hq5, hM⟩
          · have hd5 : dfa B (a + 3) = 16 := (df_s hd1).trans (by rw [show B (a + 2) = 45 from c_one hq5.2]; rfl)
            refine lv_if_eq (tgt := 120) hx hb dX6_readRest_113 (by decide) (fun c45 => absurd c45 (by decide)) (fun c45 => ?_)
            refine lv_iconst (v := 1) hx hb dX6_readRest_116 (by decide) ?_
            refine lv_goto (tgt := 121) hx hb dX6_readRest_117 (by decide) ?_
            obtain ⟨j9, hj9, ej, en⟩ := set_nI (b := 51) (N := 51) rfl (by omega) hq1.1 hq1.2
            exact W.zret (ty := .boolean) hx hb hr rfl (fun t ht hW => ⟨⟨1, H25, rfl, Or.inl ⟨rfl, a + 3, (upd L2 o (B (a + 1) - 48)), (upd L3 o 0), ⟨by omega, hq5.1, (fun k h1 h2 => by by_cases w : k = a + 1; rw [w]; exact c_not hq1.2 (Or.inr (by decide)); rw [show k = a + 2 by omega]; exact c_not hq5.2 (Or.inr (by decide))), (fun q => absurd q (by decide)), fun _ => ⟨j9, by omega, fun q => absurd rfl q, upd_eq.trans ej, en⟩, fun _ => by rw [upd_eq, cod_in hp2, if_neg c42], (fun q => absurd q (by decide))⟩, Or.inl hd5, (fun k q => ⟨upd_ne q, upd_ne q⟩), hM⟩, ht⟩, hS.F ht⟩) hS.2.2 dX6_readRest_121
          · refine lv_if_eq (tgt := 120) hx hb dX6_readRest_113 (by decide) (fun c46 => ?_) (fun c46 => absurd (by decide) c46)
            refine lv_iconst (v := 0) hx hb dX6_readRest_120 (by decide) ?_
            exact W.zret (ty := .boolean) hx hb hr rfl (fun t ht hW => ⟨⟨0, H25, rfl, Or.inr ⟨rfl, _, (upd L2 o (B (a + 1) - 48)), (upd L3 o 0), bad_n hd1 (by decide) (by decide) (by decide) hq1.1 (or_q hq4 hq5) (fun h => n13_n h), hq1.1, (fun k q => ⟨upd_ne q, upd_ne q⟩), hM⟩, ht⟩, hS.F ht⟩) hS.2.2 dX6_readRest_121
      refine lv_iconst (v := 1) hx hb dX6_readRest_88 (by decide) ?_
      refine lv_goto (tgt := 93) hx hb dX6_readRest_89 (by decide) ?_
      refine dp_iast (A := A6 μ) hx hb hK hM.2.2.2.2.2.2.2.2.2 (⟨9, by decide, rfl⟩ : A6 μ (μ 9)) hS 0 rfl o rfl (by omega) (by decide) dX6_readRest_93 (fun H26 locs hH26 hzH26 hkH26 hS => ?_)
      have hM := hM.a9 (X' := upd L3 o 1) hμ hH26 hkH26
      refine lv_aload_n hx hb dX6_readRest_94 rfl (lv_at hl 0 rfl) ?_
      refine lv_bipush (v := 43) hx hb dX6_readRest_95 (by decide) ?_
      refine lv_bipush (v := 43) hx hb dX6_readRest_97 (by decide) ?_
      refine dp_Vi hF hK hN (c_X6_takes l D G μ R S N E P B L1 (upd L2 o (B (a + 1) - 48)) (upd L3 o 1) sm kp th la (nI len) (nI (a + 2)) (nI o) hs (a + 2) len 43 43 _ hμ hM rfl rfl hq1.1 hl6) (cwV 2 hts gX6_readRest_X6_takes rfl rfl rfl (by decide +kernel) ⟨Nat.le_of_ble_eq_true rfl, Nat.le_of_ble_eq_true rfl⟩) (dp_recv hK hM.1 rfl) hS (fun q hq => hq) [] rfl rfl hl.1 (Nat.le_of_ble_eq_true rfl) dX6_readRest_99 ⟨Nat.le_of_ble_eq_true rfl, Nat.le_of_ble_eq_true rfl⟩ (fun rH27 H27 locs hp hzH27 hkH27 hS => ?_)
      rcases hp with ⟨rfl, hq6, hM⟩ | ⟨rfl, hq6, hM⟩
      · have hd6 : dfa B (a + 3) = 16 := (df_s hd1).trans (by rw [show B (a + 2) = 43 from c_one hq6.2]; rfl)
        refine lv_if_ne (tgt := 116) hx hb dX6_readRest_102 (by decide) (fun c47 => ?_) (fun c47 => absurd c47 (by decide))
        refine lv_iconst (v := 1) hx hb dX6_readRest_116 (by decide) ?_
        refine lv_goto (tgt := 121) hx hb dX6_readRest_117 (by decide) ?_
        obtain ⟨j9, hj9, ej, en⟩ := set_nI (b := 51) (N := 51) rfl (by omega) hq1.1 hq1.2
        exact W.zret (ty := .boolean) hx hb hr rfl (fun t ht hW => ⟨⟨1, H27, rfl, Or.inl ⟨rfl, a + 3, (upd L2 o (B (a + 1) - 48)), (upd L3 o 1), ⟨by omega, hq6.1, (fun k h1 h2 => by by_cases w : k = a + 1; rw [w]; exact c_not hq1.2 (Or.inr (by decide)); rw [show k = a + 2 by omega]; exact c_not hq6.2 (Or.inr (by decide))), (fun q => absurd q (by decide)), fun _ => ⟨j9, by omega, fun q => absurd rfl q, upd_eq.trans ej, en⟩, fun _ => by rw [upd_eq, cod_in hp2, if_pos c42], (fun q => absurd q (by decide))⟩, Or.inl hd6, (fun k q => ⟨upd_ne q, upd_ne q⟩), hM⟩, ht⟩, hS.F ht⟩) hS.2.2 dX6_readRest_121
      · refine lv_if_ne (tgt := 116) hx hb dX6_readRest_102 (by decide) (fun c48 => absurd c48 (by decide)) (fun c48 => ?_)
        refine lv_aload_n hx hb dX6_readRest_105 rfl (lv_at hl 0 rfl) ?_
        refine lv_bipush (v := 45) hx hb dX6_readRest_106 (by decide) ?_
        refine lv_bipush (v := 45) hx hb dX6_readRest_108 (by decide) ?_
        refine dp_Vi hF hK hN (c_X6_takes l D G μ R S N E P B L1 (upd L2 o (B (a + 1) - 48)) (upd L3 o 1) sm kp th la (nI len) (nI (a + 2)) (nI o) hs (a + 2) len 45 45 _ hμ hM rfl rfl hq1.1 hl6) (cwV 2 hts gX6_readRest_X6_takes rfl rfl rfl (by decide +kernel) ⟨Nat.le_of_ble_eq_true rfl, Nat.le_of_ble_eq_true rfl⟩) (dp_recv hK hM.1 rfl) hS (fun q hq => hq) [] rfl rfl hl.1 (Nat.le_of_ble_eq_true rfl) dX6_readRest_110 ⟨Nat.le_of_ble_eq_true rfl, Nat.le_of_ble_eq_true rfl⟩ (fun rH28 H28 locs hp hzH28 hkH28 hS => ?_)
        rcases hp with ⟨rfl, hq7, hM⟩ | ⟨rfl, hq7, hM⟩
        · have hd7 : dfa B (a + 3) = 16 := (df_s hd1).trans (by rw [show B (a + 2) = 45 from c_one hq7.2]; rfl)
          refine lv_if_eq (tgt := 120) hx hb dX6_readRest_113 (by decide) (fun c49 => absurd c49 (by decide)) (fun c49 => ?_)
          refine lv_iconst (v := 1) hx hb dX6_readRest_116 (by decide) ?_
          refine lv_goto (tgt := 121) hx hb dX6_readRest_117 (by decide) ?_
          obtain ⟨j9, hj9, ej, en⟩ := set_nI (b := 51) (N := 51) rfl (by omega) hq1.1 hq1.2
          exact W.zret (ty := .boolean) hx hb hr rfl (fun t ht hW => ⟨⟨1, H28, rfl, Or.inl ⟨rfl, a + 3, (upd L2 o (B (a + 1) - 48)), (upd L3 o 1), ⟨by omega, hq7.1, (fun k h1 h2 => by by_cases w : k = a + 1; rw [w]; exact c_not hq1.2 (Or.inr (by decide)); rw [show k = a + 2 by omega]; exact c_not hq7.2 (Or.inr (by decide))), (fun q => absurd q (by decide)), fun _ => ⟨j9, by omega, fun q => absurd rfl q, upd_eq.trans ej, en⟩, fun _ => by rw [upd_eq, cod_in hp2, if_pos c42], (fun q => absurd q (by decide))⟩, Or.inl hd7, (fun k q => ⟨upd_ne q, upd_ne q⟩), hM⟩, ht⟩, hS.F ht⟩) hS.2.2 dX6_readRest_121
        · refine lv_if_eq (tgt := 120) hx hb dX6_readRest_113 (by decide) (fun c50 => ?_) (fun c50 => absurd (by decide) c50)
          refine lv_iconst (v := 0) hx hb dX6_readRest_120 (by decide) ?_
          exact W.zret (ty := .boolean) hx hb hr rfl (fun t ht hW => ⟨⟨0, H28, rfl, Or.inr ⟨rfl, _, (upd L2 o (B (a + 1) - 48)), (upd L3 o 1), bad_n hd1 (by decide) (by decide) (by decide) hq1.1 (or_q hq6 hq7) (fun h => n13_n h), hq1.1, (fun k q => ⟨upd_ne q, upd_ne q⟩), hM⟩, ht⟩, hS.F ht⟩) hS.2.2 dX6_readRest_121
    · refine lv_if_ne (tgt := 35) hx hb dX6_readRest_30 (by decide) (fun c51 => absurd c51 (by decide)) (fun c51 => ?_)
      refine lv_iconst (v := 0) hx hb dX6_readRest_33 (by decide) ?_
      exact W.zret (ty := .boolean) hx hb hr rfl (fun t ht hW => ⟨⟨0, H17, rfl, Or.inr ⟨rfl, _, L2, L3, bad_n hd0 (by decide) (by decide) (by decide) hpl hq1 (fun h => by rw [nx12, bt_n h]), hpl, (fun k q => ⟨rfl, rfl⟩), hM⟩, ht⟩, hS.F ht⟩) hS.2.2 dX6_readRest_34
  · have hd0 : dfa B (a + 1) = 14 := hd0
    refine lv_iload_n hx hb dX6_readRest_0 rfl (lv_at hl 1 rfl) ?_
    refine lv_bipush (v := 116) hx hb dX6_readRest_1 (by decide) ?_
    refine lv_icmp_ne (tgt := 11) hx hb dX6_readRest_3 (by decide) (fun c52 => absurd c52 (by decide)) (fun c52 => ?_)
    refine lv_aload_n hx hb dX6_readRest_6 rfl (lv_at hl 0 rfl) ?_
    refine dp_Vi hF hK hN (c_X6_readTicks l D G μ R S N E P B L1 L2 L3 sm kp th la (nI len) (nI (a + 1)) (nI o) hs (a + 1) len o _ hμ hM rfl rfl hpl hl6 rfl ho hd0) (cwV 0 hts gX6_readRest_X6_readTicks rfl rfl rfl (by decide +kernel) ⟨Nat.le_of_ble_eq_true rfl, Nat.le_of_ble_eq_true rfl⟩) (dp_recv hK hM.1 rfl) hS (fun q hq => hq) [] rfl rfl hl.1 (Nat.le_of_ble_eq_true rfl) dX6_readRest_7 ⟨Nat.le_of_ble_eq_true rfl, Nat.le_of_ble_eq_true rfl⟩ (fun rH29 H29 locs hp hzH29 hkH29 hS => ?_)
    rcases hp with ⟨rfl, e9, t9, X2, ht1, ht2, ht3, ht4, ht5, ht6, ht7, ht8, hM⟩ | ⟨rfl, p2, hbad, hp2, hM⟩
    · exact W.zret (ty := .boolean) hx hb hr rfl (fun t ht hW => ⟨⟨1, H29, rfl, Or.inl ⟨rfl, e9, X2, L3, ⟨by omega, ht2, ht4, fun _ => ⟨t9, ht5, ht7, ht6⟩, fun q => absurd rfl q, (fun q => absurd q (by decide)), (fun q => absurd q (by decide))⟩, ht3, (fun k q => ⟨ht8 k q, rfl⟩), hM⟩, ht⟩, hS.F ht⟩) hS.2.2 dX6_readRest_10
    · exact W.zret (ty := .boolean) hx hb hr rfl (fun t ht hW => ⟨⟨0, H29, rfl, Or.inr ⟨rfl, p2, L2, L3, hbad, hp2, (fun k q => ⟨rfl, rfl⟩), hM⟩, ht⟩, hS.F ht⟩) hS.2.2 dX6_readRest_10

set_option maxHeartbeats 600000 in
set_option maxRecDepth 100000 in
theorem c_X6_readOrder (l : Launch) (D : va_G) (G : Nat → ClassId) (μ : Nat → Nat) (R S N E P B L1 L2 L3 : Nat → Int32) (sm kp th la ln sp od : Int32) (hs : Int64) (a len o : Nat) (H : Heap) (hμ : inj 10 μ) (hM : MO D G μ R S N E P B L1 L2 L3 sm kp th la ln sp od hs H) (hsp : sp = nI a) (hln : ln = nI len) (hpl : a ≤ len) (hl6 : len ≤ 60) (hod : od = nI o) (ho : o < 24) (hd0 : dfa B a = 1) : Met l yX6_readOrder wsX6_readOrder ({ frames := 4, cells := 0, slots := 0, locals := 88 } : Room) (va_Pc [.ref (μ 0)] (CX D G H)) (QI (A6 μ) (fun r h => (1 = r ∧ ∃ (e : Nat) (X1 X2 X3 : Nat → Int32), ordK B len X1 X2 X3 o a e ∧ fin B len e ∧ (∀ k, ¬ k = o → X1 k = L1 k ∧ X2 k = L2 k ∧ X3 k = L3 k) ∧ MO D G μ R S N E P B X1 X2 X3 sm kp th la (nI len) (nI e) (nI (o + 1)) hs h) ∨ (0 = r ∧ ∃ (p2 : Nat) (X1 X2 X3 : Nat → Int32), bad B len p2 ∧ p2 ≤ len ∧ MO D G μ R S N E P B X1 X2 X3 sm kp th la (nI len) (nI p2) (nI o) hs h))) 0 0 (A6 μ) := by
  refine Met.ofW (cc := cX6_readOrder) (maxL := 3) (ret := (some .boolean)) (by decide) rfl ?_
  intro p e s m args below meth c s₁ B0 hml hv
  obtain ⟨rfl, rfl, hK, hN⟩ := hv
  have hx := B0.exec
  have hb := B0.bytes
  have hr := B0.returns
  have hts := atoms_spec (ws := wsX6_readOrder) B0.pre
  have hown : s.vm.findClass RX6 = some m.cls := findClass_of_methodNamed B0.named
  have hlocks := B0.notSynchronized
  have hF : CallFix p m c cX6_readOrder 3 s ([.ref (μ 0)] : List Value).toArray wsX6_readOrder RX6 := ⟨hx, hb, hml, hown, hts⟩
  have hS : va_S (A6 μ) s.heap s.heap [] := va_S.rf
  have hl := lv_entry ([.ref (μ 0)]) (n := 3) (Nat.le_of_ble_eq_true rfl)
  rw [lg_entry_eq]
  generalize (lg_sl ([.ref (μ 0)]) ++ List.replicate (3 - (lg_sl ([.ref (μ 0)])).length) Slot.unset).toArray = ls at hl ⊢
  have hl : lv_has ls 3 [(0, .ref (μ 0))] := hl
  subst hsp hln hod
  refine lv_aload_n hx hb dX6_readOrder_0 rfl (lv_at hl 0 rfl) ?_
  refine dp_get hx hb hts (dp_hin 32 rfl) hown hK hM.1 rfl 11 (by decide) (hts (.fieldLink RX6 156 "DroopBoardModel" "spot" "I") (List.mem_of_getElem? (i := 1) rfl)) rfl dX6_readOrder_1 ?_
  refine lv_aload_n hx hb dX6_readOrder_4 rfl (lv_at hl 0 rfl) ?_
  refine dp_get hx hb hts (dp_hin 32 rfl) hown hK hM.1 rfl 10 (by decide) (hts (.fieldLink RX6 153 "DroopBoardModel" "length" "I") (List.mem_of_getElem? (i := 2) rfl)) rfl dX6_readOrder_5 ?_
  refine lv_icmp_ge (tgt := 23) hx hb dX6_readOrder_8 (by decide) (fun c1 => ?_) (fun c1 => ?_)
  · refine lv_iconst (v := 0) hx hb dX6_readOrder_23 (by decide) ?_
    refine lv_istore_n (lv' := [(1, .int 0), (0, .ref (μ 0))]) hx hb dX6_readOrder_24 rfl hl (by decide) rfl (fun ls hl => ?_)
    refine lv_iload_n hx hb dX6_readOrder_25 rfl (lv_at hl 0 rfl) ?_
    refine lv_bipush (v := 115) hx hb dX6_readOrder_26 (by decide) ?_
    refine lv_icmp_eq (tgt := 67) hx hb dX6_readOrder_28 (by decide) (fun c2 => absurd c2 (by decide)) (fun c2 => ?_)
    refine lv_iload_n hx hb dX6_readOrder_31 rfl (lv_at hl 0 rfl) ?_
    refine lv_bipush (v := 114) hx hb dX6_readOrder_32 (by decide) ?_
    refine lv_icmp_eq (tgt := 67) hx hb dX6_readOrder_34 (by decide) (fun c3 => absurd c3 (by decide)) (fun c3 => ?_)
    refine lv_iload_n hx hb dX6_readOrder_37 rfl (lv_at hl 0 rfl) ?_
    refine lv_bipush (v := 104) hx hb dX6_readOrder_38 (by decide) ?_
    refine lv_icmp_eq (tgt := 67) hx hb dX6_readOrder_40 (by decide) (fun c4 => absurd c4 (by decide)) (fun c4 => ?_)
    refine lv_iload_n hx hb dX6_readOrder_43 rfl (lv_at hl 0 rfl) ?_
    refine lv_bipush (v := 99) hx hb dX6_readOrder_44 (by decide) ?_
    refine lv_icmp_eq (tgt := 67) hx hb dX6_readOrder_46 (by decide) (fun c5 => absurd c5 (by decide)) (fun c5 => ?_)
    refine lv_iload_n hx hb dX6_readOrder_49 rfl (lv_at hl 0 rfl) ?_
    refine lv_bipush (v := 111) hx hb dX6_readOrder_50 (by decide) ?_
    refine lv_icmp_eq (tgt := 67) hx hb dX6_readOrder_52 (by decide) (fun c6 => absurd c6 (by decide)) (fun c6 => ?_)
    refine lv_iload_n hx hb dX6_readOrder_55 rfl (lv_at hl 0 rfl) ?_
    refine lv_bipush (v := 102) hx hb dX6_readOrder_56 (by decide) ?_
    refine lv_icmp_eq (tgt := 67) hx hb dX6_readOrder_58 (by decide) (fun c7 => absurd c7 (by decide)) (fun c7 => ?_)
    refine lv_iload_n hx hb dX6_readOrder_61 rfl (lv_at hl 0 rfl) ?_
    refine lv_bipush (v := 116) hx hb dX6_readOrder_62 (by decide) ?_
    refine lv_icmp_ne (tgt := 71) hx hb dX6_readOrder_64 (by decide) (fun c8 => ?_) (fun c8 => absurd c8 (by decide))
    refine lv_iconst (v := 0) hx hb dX6_readOrder_71 (by decide) ?_
    refine lv_istore_n (lv' := [(2, .int 0), (1, .int 0), (0, .ref (μ 0))]) hx hb dX6_readOrder_72 rfl hl (by decide) rfl (fun ls hl => ?_)
    refine lv_aload_n hx hb dX6_readOrder_73 rfl (lv_at hl 2 rfl) ?_
    refine lv_dup hx hb dX6_readOrder_74 rfl ?_
    refine dp_get hx hb hts (dp_hin 32 rfl) hown hK hM.1 rfl 11 (by decide) (hts (.fieldLink RX6 156 "DroopBoardModel" "spot" "I") (List.mem_of_getElem? (i := 1) rfl)) rfl dX6_readOrder_75 ?_
    refine lv_iload_n hx hb dX6_readOrder_78 rfl (lv_at hl 0 rfl) ?_
    refine lv_if_eq (tgt := 86) hx hb dX6_readOrder_79 (by decide) (fun c9 => ?_) (fun c9 => absurd (by decide) c9)
    refine lv_iconst (v := 0) hx hb dX6_readOrder_86 (by decide) ?_
    refine lv_iadd hx hb dX6_readOrder_87 ?_
    rw [show nI a + 0 = nI a from Int32.add_zero _]
    refine dp_put (A := A6 μ) (v := .int (nI a)) hx hb hts (dp_hin 32 rfl) tyX6 tyX6_ok nmX6 hown hK hM.1 (⟨0, by decide, rfl⟩ : A6 μ (μ 0)) hS rfl 11 (by decide) (hts (.fieldLink RX6 156 "DroopBoardModel" "spot" "I") (List.mem_of_getElem? (i := 1) rfl)) rfl rfl rfl (Nat.le_of_ble_eq_true rfl) dX6_readOrder_88 (fun H1 locs hH1 hzH1 hkH1 hS => ?_)
    have hM := hM.o (sm' := sm) (kp' := kp) (th' := th) (la' := la) (ln' := (nI len)) (sp' := (nI a)) (od' := (nI o)) (hs' := hs) hμ hH1 hkH1
    refine lv_iload_n hx hb dX6_readOrder_91 rfl (lv_at hl 0 rfl) ?_
    refine lv_if_eq (tgt := 103) hx hb dX6_readOrder_92 (by decide) (fun c10 => ?_) (fun c10 => absurd (by decide) c10)
    refine lv_iconst (v := 0) hx hb dX6_readOrder_103 (by decide) ?_
    exact W.zret (ty := .boolean) hx hb hr rfl (fun t ht hW => ⟨⟨0, H1, rfl, Or.inr ⟨rfl, a, _, _, _, bad_n (X := False) hd0 (by decide) (by decide) (by decide) hpl (Or.inl (ge_sp hl6 hpl c1)) (fun h => h.elim), hpl, hM⟩, ht⟩, hS.F ht⟩) hS.2.2 dX6_readOrder_104
  have hp1 : a < len := lt_sp hl6 hpl c1
  refine lv_aload_n hx hb dX6_readOrder_11 rfl (lv_at hl 0 rfl) ?_
  refine dp_get hx hb hts (dp_hin 32 rfl) hown hK hM.1 rfl 9 (by decide) (hts (.fieldLink RX6 25 "DroopBoardModel" "buffer" "[I") (List.mem_of_getElem? (i := 3) rfl)) rfl dX6_readOrder_12 ?_
  refine lv_aload_n hx hb dX6_readOrder_15 rfl (lv_at hl 0 rfl) ?_
  refine dp_get hx hb hts (dp_hin 32 rfl) hown hK hM.1 rfl 11 (by decide) (hts (.fieldLink RX6 156 "DroopBoardModel" "spot" "I") (List.mem_of_getElem? (i := 1) rfl)) rfl dX6_readOrder_16 ?_
  refine dp_iald hx hb hK hM.2.2.2.2.2.2.1 0 rfl a rfl (by omega) (by decide) dX6_readOrder_19 ?_
  refine lv_goto (tgt := 24) hx hb dX6_readOrder_20 (by decide) ?_
  refine lv_istore_n (lv' := [(1, .int (B a)), (0, .ref (μ 0))]) hx hb dX6_readOrder_24 rfl hl (by decide) rfl (fun ls hl => ?_)
  refine lv_iload_n hx hb dX6_readOrder_25 rfl (lv_at hl 0 rfl) ?_
  refine lv_bipush (v := 115) hx hb dX6_readOrder_26 (by decide) ?_
  refine lv_icmp_eq (tgt := 67) hx hb dX6_readOrder_28 (by decide) (fun c11 => ?_) (fun c11 => ?_)
  · refine lv_iconst (v := 1) hx hb dX6_readOrder_67 (by decide) ?_
    refine lv_goto (tgt := 72) hx hb dX6_readOrder_68 (by decide) ?_
    refine lv_istore_n (lv' := [(2, .int 1), (1, .int (B a)), (0, .ref (μ 0))]) hx hb dX6_readOrder_72 rfl hl (by decide) rfl (fun ls hl => ?_)
    refine lv_aload_n hx hb dX6_readOrder_73 rfl (lv_at hl 2 rfl) ?_
    refine lv_dup hx hb dX6_readOrder_74 rfl ?_
    refine dp_get hx hb hts (dp_hin 32 rfl) hown hK hM.1 rfl 11 (by decide) (hts (.fieldLink RX6 156 "DroopBoardModel" "spot" "I") (List.mem_of_getElem? (i := 1) rfl)) rfl dX6_readOrder_75 ?_
    refine lv_iload_n hx hb dX6_readOrder_78 rfl (lv_at hl 0 rfl) ?_
    refine lv_if_eq (tgt := 86) hx hb dX6_readOrder_79 (by decide) (fun c12 => absurd c12 (by decide)) (fun c12 => ?_)
    refine lv_iconst (v := 1) hx hb dX6_readOrder_82 (by decide) ?_
    refine lv_goto (tgt := 87) hx hb dX6_readOrder_83 (by decide) ?_
    refine lv_iadd hx hb dX6_readOrder_87 ?_
    rw [nI_1 a]
    refine dp_put (A := A6 μ) (v := .int (nI (a + 1))) hx hb hts (dp_hin 32 rfl) tyX6 tyX6_ok nmX6 hown hK hM.1 (⟨0, by decide, rfl⟩ : A6 μ (μ 0)) hS rfl 11 (by decide) (hts (.fieldLink RX6 156 "DroopBoardModel" "spot" "I") (List.mem_of_getElem? (i := 1) rfl)) rfl rfl rfl (Nat.le_of_ble_eq_true rfl) dX6_readOrder_88 (fun H2 locs hH2 hzH2 hkH2 hS => ?_)
    have hM := hM.o (sm' := sm) (kp' := kp) (th' := th) (la' := la) (ln' := (nI len)) (sp' := (nI (a + 1))) (od' := (nI o)) (hs' := hs) hμ hH2 hkH2
    refine lv_iload_n hx hb dX6_readOrder_91 rfl (lv_at hl 0 rfl) ?_
    refine lv_if_eq (tgt := 103) hx hb dX6_readOrder_92 (by decide) (fun c13 => absurd c13 (by decide)) (fun c13 => ?_)
    refine lv_aload_n hx hb dX6_readOrder_95 rfl (lv_at hl 2 rfl) ?_
    refine lv_iload_n hx hb dX6_readOrder_96 rfl (lv_at hl 1 rfl) ?_
    refine dp_Vi hF hK hN (c_X6_readRest l D G μ R S N E P B L1 L2 L3 sm kp th la (nI len) (nI (a + 1)) (nI o) hs a len o (B a) _ hμ hM rfl rfl hp1 hl6 rfl ho (Or.inl c11) (by rw [df_s hd0, nx1])) (cwV 1 hts gX6_readOrder_X6_readRest rfl rfl rfl (by decide +kernel) ⟨Nat.le_of_ble_eq_true rfl, Nat.le_of_ble_eq_true rfl⟩) (dp_recv hK hM.1 rfl) hS (fun q hq => hq) [] rfl rfl hl.1 (Nat.le_of_ble_eq_true rfl) dX6_readOrder_97 ⟨Nat.le_of_ble_eq_true rfl, Nat.le_of_ble_eq_true rfl⟩ (fun rH3 H3 locs hp hzH3 hkH3 hS => ?_)
    rcases hp with ⟨rfl, e9, X2, X3, hR, hfin, hag, hM⟩ | ⟨rfl, p2, X2, X3, hbad, hp2, hag, hM⟩
    · refine lv_if_ne (tgt := 105) hx hb dX6_readOrder_100 (by decide) (fun c14 => ?_) (fun c14 => absurd c14 (by decide))
      refine lv_aload_n hx hb dX6_readOrder_105 rfl (lv_at hl 2 rfl) ?_
      refine dp_get hx hb hts (dp_hin 32 rfl) hown hK hM.1 rfl 13 (by decide) (hts (.fieldLink RX6 28 "DroopBoardModel" "letter" "[I") (List.mem_of_getElem? (i := 4) rfl)) rfl dX6_readOrder_106 ?_
      refine lv_aload_n hx hb dX6_readOrder_109 rfl (lv_at hl 2 rfl) ?_
      refine dp_get hx hb hts (dp_hin 32 rfl) hown hK hM.1 rfl 12 (by decide) (hts (.fieldLink RX6 165 "DroopBoardModel" "orders" "I") (List.mem_of_getElem? (i := 5) rfl)) rfl dX6_readOrder_110 ?_
      refine lv_iload_n hx hb dX6_readOrder_113 rfl (lv_at hl 1 rfl) ?_
      refine dp_iast (A := A6 μ) hx hb hK hM.2.2.2.2.2.2.2.1 (⟨7, by decide, rfl⟩ : A6 μ (μ 7)) hS 0 rfl o rfl (by omega) (by decide) dX6_readOrder_114 (fun H4 locs hH4 hzH4 hkH4 hS => ?_)
      have hM := hM.a7 (X' := upd L1 o (B a)) hμ hH4 hkH4
      refine lv_aload_n hx hb dX6_readOrder_115 rfl (lv_at hl 2 rfl) ?_
      refine lv_dup hx hb dX6_readOrder_116 rfl ?_
      refine dp_get hx hb hts (dp_hin 32 rfl) hown hK hM.1 rfl 12 (by decide) (hts (.fieldLink RX6 165 "DroopBoardModel" "orders" "I") (List.mem_of_getElem? (i := 5) rfl)) rfl dX6_readOrder_117 ?_
      refine lv_iconst (v := 1) hx hb dX6_readOrder_120 (by decide) ?_
      refine lv_iadd hx hb dX6_readOrder_121 ?_
      rw [nI_1 o]
      refine dp_put (A := A6 μ) (v := .int (nI (o + 1))) hx hb hts (dp_hin 32 rfl) tyX6 tyX6_ok nmX6 hown hK hM.1 (⟨0, by decide, rfl⟩ : A6 μ (μ 0)) hS rfl 12 (by decide) (hts (.fieldLink RX6 165 "DroopBoardModel" "orders" "I") (List.mem_of_getElem? (i := 5) rfl)) rfl rfl rfl (Nat.le_of_ble_eq_true rfl) dX6_readOrder_122 (fun H5 locs hH5 hzH5 hkH5 hS => ?_)
      have hM := hM.o (sm' := sm) (kp' := kp) (th' := th) (la' := la) (ln' := (nI len)) (sp' := (nI e9)) (od' := (nI (o + 1))) (hs' := hs) hμ hH5 hkH5
      refine lv_iconst (v := 1) hx hb dX6_readOrder_125 (by decide) ?_
      exact W.zret (ty := .boolean) hx hb hr rfl (fun t ht hW => ⟨⟨1, H5, rfl, Or.inl ⟨rfl, e9, _, X2, X3, ⟨hR, upd_eq, (Or.inl c11)⟩, hfin, (fun k q => ⟨upd_ne q, hag k q⟩), hM⟩, ht⟩, hS.F ht⟩) hS.2.2 dX6_readOrder_126
    · refine lv_if_ne (tgt := 105) hx hb dX6_readOrder_100 (by decide) (fun c15 => absurd c15 (by decide)) (fun c15 => ?_)
      refine lv_iconst (v := 0) hx hb dX6_readOrder_103 (by decide) ?_
      exact W.zret (ty := .boolean) hx hb hr rfl (fun t ht hW => ⟨⟨0, H3, rfl, Or.inr ⟨rfl, p2, _, X2, X3, hbad, hp2, hM⟩, ht⟩, hS.F ht⟩) hS.2.2 dX6_readOrder_104
  refine lv_iload_n hx hb dX6_readOrder_31 rfl (lv_at hl 0 rfl) ?_
  refine lv_bipush (v := 114) hx hb dX6_readOrder_32 (by decide) ?_
  refine lv_icmp_eq (tgt := 67) hx hb dX6_readOrder_34 (by decide) (fun c16 => ?_) (fun c16 => ?_)
  · refine lv_iconst (v := 1) hx hb dX6_readOrder_67 (by decide) ?_
    refine lv_goto (tgt := 72) hx hb dX6_readOrder_68 (by decide) ?_
    refine lv_istore_n (lv' := [(2, .int 1), (1, .int (B a)), (0, .ref (μ 0))]) hx hb dX6_readOrder_72 rfl hl (by decide) rfl (fun ls hl => ?_)
    refine lv_aload_n hx hb dX6_readOrder_73 rfl (lv_at hl 2 rfl) ?_
    refine lv_dup hx hb dX6_readOrder_74 rfl ?_
    refine dp_get hx hb hts (dp_hin 32 rfl) hown hK hM.1 rfl 11 (by decide) (hts (.fieldLink RX6 156 "DroopBoardModel" "spot" "I") (List.mem_of_getElem? (i := 1) rfl)) rfl dX6_readOrder_75 ?_
    refine lv_iload_n hx hb dX6_readOrder_78 rfl (lv_at hl 0 rfl) ?_
    refine lv_if_eq (tgt := 86) hx hb dX6_readOrder_79 (by decide) (fun c17 => absurd c17 (by decide)) (fun c17 => ?_)
    refine lv_iconst (v := 1) hx hb dX6_readOrder_82 (by decide) ?_
    refine lv_goto (tgt := 87) hx hb dX6_readOrder_83 (by decide) ?_
    refine lv_iadd hx hb dX6_readOrder_87 ?_
    rw [nI_1 a]
    refine dp_put (A := A6 μ) (v := .int (nI (a + 1))) hx hb hts (dp_hin 32 rfl) tyX6 tyX6_ok nmX6 hown hK hM.1 (⟨0, by decide, rfl⟩ : A6 μ (μ 0)) hS rfl 11 (by decide) (hts (.fieldLink RX6 156 "DroopBoardModel" "spot" "I") (List.mem_of_getElem? (i := 1) rfl)) rfl rfl rfl (Nat.le_of_ble_eq_true rfl) dX6_readOrder_88 (fun H6 locs hH6 hzH6 hkH6 hS => ?_)
    have hM := hM.o (sm' := sm) (kp' := kp) (th' := th) (la' := la) (ln' := (nI len)) (sp' := (nI (a + 1))) (od' := (nI o)) (hs' := hs) hμ hH6 hkH6
    refine lv_iload_n hx hb dX6_readOrder_91 rfl (lv_at hl 0 rfl) ?_
    refine lv_if_eq (tgt := 103) hx hb dX6_readOrder_92 (by decide) (fun c18 => absurd c18 (by decide)) (fun c18 => ?_)
    refine lv_aload_n hx hb dX6_readOrder_95 rfl (lv_at hl 2 rfl) ?_
    refine lv_iload_n hx hb dX6_readOrder_96 rfl (lv_at hl 1 rfl) ?_
    refine dp_Vi hF hK hN (c_X6_readRest l D G μ R S N E P B L1 L2 L3 sm kp th la (nI len) (nI (a + 1)) (nI o) hs a len o (B a) _ hμ hM rfl rfl hp1 hl6 rfl ho (Or.inr (Or.inl c16)) (by rw [df_s hd0, nx1])) (cwV 1 hts gX6_readOrder_X6_readRest rfl rfl rfl (by decide +kernel) ⟨Nat.le_of_ble_eq_true rfl, Nat.le_of_ble_eq_true rfl⟩) (dp_recv hK hM.1 rfl) hS (fun q hq => hq) [] rfl rfl hl.1 (Nat.le_of_ble_eq_true rfl) dX6_readOrder_97 ⟨Nat.le_of_ble_eq_true rfl, Nat.le_of_ble_eq_true rfl⟩ (fun rH7 H7 locs hp hzH7 hkH7 hS => ?_)
    rcases hp with ⟨rfl, e9, X2, X3, hR, hfin, hag, hM⟩ | ⟨rfl, p2, X2, X3, hbad, hp2, hag, hM⟩
    · refine lv_if_ne (tgt := 105) hx hb dX6_readOrder_100 (by decide) (fun c19 => ?_) (fun c19 => absurd c19 (by decide))
      refine lv_aload_n hx hb dX6_readOrder_105 rfl (lv_at hl 2 rfl) ?_
      refine dp_get hx hb hts (dp_hin 32 rfl) hown hK hM.1 rfl 13 (by decide) (hts (.fieldLink RX6 28 "DroopBoardModel" "letter" "[I") (List.mem_of_getElem? (i := 4) rfl)) rfl dX6_readOrder_106 ?_
      refine lv_aload_n hx hb dX6_readOrder_109 rfl (lv_at hl 2 rfl) ?_
      refine dp_get hx hb hts (dp_hin 32 rfl) hown hK hM.1 rfl 12 (by decide) (hts (.fieldLink RX6 165 "DroopBoardModel" "orders" "I") (List.mem_of_getElem? (i := 5) rfl)) rfl dX6_readOrder_110 ?_
      refine lv_iload_n hx hb dX6_readOrder_113 rfl (lv_at hl 1 rfl) ?_
      refine dp_iast (A := A6 μ) hx hb hK hM.2.2.2.2.2.2.2.1 (⟨7, by decide, rfl⟩ : A6 μ (μ 7)) hS 0 rfl o rfl (by omega) (by decide) dX6_readOrder_114 (fun H8 locs hH8 hzH8 hkH8 hS => ?_)
      have hM := hM.a7 (X' := upd L1 o (B a)) hμ hH8 hkH8
      refine lv_aload_n hx hb dX6_readOrder_115 rfl (lv_at hl 2 rfl) ?_
      refine lv_dup hx hb dX6_readOrder_116 rfl ?_
      refine dp_get hx hb hts (dp_hin 32 rfl) hown hK hM.1 rfl 12 (by decide) (hts (.fieldLink RX6 165 "DroopBoardModel" "orders" "I") (List.mem_of_getElem? (i := 5) rfl)) rfl dX6_readOrder_117 ?_
      refine lv_iconst (v := 1) hx hb dX6_readOrder_120 (by decide) ?_
      refine lv_iadd hx hb dX6_readOrder_121 ?_
      rw [nI_1 o]
      refine dp_put (A := A6 μ) (v := .int (nI (o + 1))) hx hb hts (dp_hin 32 rfl) tyX6 tyX6_ok nmX6 hown hK hM.1 (⟨0, by decide, rfl⟩ : A6 μ (μ 0)) hS rfl 12 (by decide) (hts (.fieldLink RX6 165 "DroopBoardModel" "orders" "I") (List.mem_of_getElem? (i := 5) rfl)) rfl rfl rfl (Nat.le_of_ble_eq_true rfl) dX6_readOrder_122 (fun H9 locs hH9 hzH9 hkH9 hS => ?_)
      have hM := hM.o (sm' := sm) (kp' := kp) (th' := th) (la' := la) (ln' := (nI len)) (sp' := (nI e9)) (od' := (nI (o + 1))) (hs' := hs) hμ hH9 hkH9
      refine lv_iconst (v := 1) hx hb dX6_readOrder_125 (by decide) ?_
      exact W.zret (ty := .boolean) hx hb hr rfl (fun t ht hW => ⟨⟨1, H9, rfl, Or.inl ⟨rfl, e9, _, X2, X3, ⟨hR, upd_eq, (Or.inr (Or.inl c16))⟩, hfin, (fun k q => ⟨upd_ne q, hag k q⟩), hM⟩, ht⟩, hS.F ht⟩) hS.2.2 dX6_readOrder_126
    · refine lv_if_ne (tgt := 105) hx hb dX6_readOrder_100 (by decide) (fun c20 => absurd c20 (by decide)) (fun c20 => ?_)
      refine lv_iconst (v := 0) hx hb dX6_readOrder_103 (by decide) ?_
      exact W.zret (ty := .boolean) hx hb hr rfl (fun t ht hW => ⟨⟨0, H7, rfl, Or.inr ⟨rfl, p2, _, X2, X3, hbad, hp2, hM⟩, ht⟩, hS.F ht⟩) hS.2.2 dX6_readOrder_104
  refine lv_iload_n hx hb dX6_readOrder_37 rfl (lv_at hl 0 rfl) ?_
  refine lv_bipush (v := 104) hx hb dX6_readOrder_38 (by decide) ?_
  refine lv_icmp_eq (tgt := 67) hx hb dX6_readOrder_40 (by decide) (fun c21 => ?_) (fun c21 => ?_)
  · refine lv_iconst (v := 1) hx hb dX6_readOrder_67 (by decide) ?_
    refine lv_goto (tgt := 72) hx hb dX6_readOrder_68 (by decide) ?_
    refine lv_istore_n (lv' := [(2, .int 1), (1, .int (B a)), (0, .ref (μ 0))]) hx hb dX6_readOrder_72 rfl hl (by decide) rfl (fun ls hl => ?_)
    refine lv_aload_n hx hb dX6_readOrder_73 rfl (lv_at hl 2 rfl) ?_
    refine lv_dup hx hb dX6_readOrder_74 rfl ?_
    refine dp_get hx hb hts (dp_hin 32 rfl) hown hK hM.1 rfl 11 (by decide) (hts (.fieldLink RX6 156 "DroopBoardModel" "spot" "I") (List.mem_of_getElem? (i := 1) rfl)) rfl dX6_readOrder_75 ?_
    refine lv_iload_n hx hb dX6_readOrder_78 rfl (lv_at hl 0 rfl) ?_
    refine lv_if_eq (tgt := 86) hx hb dX6_readOrder_79 (by decide) (fun c22 => absurd c22 (by decide)) (fun c22 => ?_)
    refine lv_iconst (v := 1) hx hb dX6_readOrder_82 (by decide) ?_
    refine lv_goto (tgt := 87) hx hb dX6_readOrder_83 (by decide) ?_
    refine lv_iadd hx hb dX6_readOrder_87 ?_
    rw [nI_1 a]
    refine dp_put (A := A6 μ) (v := .int (nI (a + 1))) hx hb hts (dp_hin 32 rfl) tyX6 tyX6_ok nmX6 hown hK hM.1 (⟨0, by decide, rfl⟩ : A6 μ (μ 0)) hS rfl 11 (by decide) (hts (.fieldLink RX6 156 "DroopBoardModel" "spot" "I") (List.mem_of_getElem? (i := 1) rfl)) rfl rfl rfl (Nat.le_of_ble_eq_true rfl) dX6_readOrder_88 (fun H10 locs hH10 hzH10 hkH10 hS => ?_)
    have hM := hM.o (sm' := sm) (kp' := kp) (th' := th) (la' := la) (ln' := (nI len)) (sp' := (nI (a + 1))) (od' := (nI o)) (hs' := hs) hμ hH10 hkH10
    refine lv_iload_n hx hb dX6_readOrder_91 rfl (lv_at hl 0 rfl) ?_
    refine lv_if_eq (tgt := 103) hx hb dX6_readOrder_92 (by decide) (fun c23 => absurd c23 (by decide)) (fun c23 => ?_)
    refine lv_aload_n hx hb dX6_readOrder_95 rfl (lv_at hl 2 rfl) ?_
    refine lv_iload_n hx hb dX6_readOrder_96 rfl (lv_at hl 1 rfl) ?_
    refine dp_Vi hF hK hN (c_X6_readRest l D G μ R S N E P B L1 L2 L3 sm kp th la (nI len) (nI (a + 1)) (nI o) hs a len o (B a) _ hμ hM rfl rfl hp1 hl6 rfl ho (Or.inr (Or.inr (Or.inl c21))) (by rw [df_s hd0, nx1])) (cwV 1 hts gX6_readOrder_X6_readRest rfl rfl rfl (by decide +kernel) ⟨Nat.le_of_ble_eq_true rfl, Nat.le_of_ble_eq_true rfl⟩) (dp_recv hK hM.1 rfl) hS (fun q hq => hq) [] rfl rfl hl.1 (Nat.le_of_ble_eq_true rfl) dX6_readOrder_97 ⟨Nat.le_of_ble_eq_true rfl, Nat.le_of_ble_eq_true rfl⟩ (fun rH11 H11 locs hp hzH11 hkH11 hS => ?_)
    rcases hp with ⟨rfl, e9, X2, X3, hR, hfin, hag, hM⟩ | ⟨rfl, p2, X2, X3, hbad, hp2, hag, hM⟩
    · refine lv_if_ne (tgt := 105) hx hb dX6_readOrder_100 (by decide) (fun c24 => ?_) (fun c24 => absurd c24 (by decide))
      refine lv_aload_n hx hb dX6_readOrder_105 rfl (lv_at hl 2 rfl) ?_
      refine dp_get hx hb hts (dp_hin 32 rfl) hown hK hM.1 rfl 13 (by decide) (hts (.fieldLink RX6 28 "DroopBoardModel" "letter" "[I") (List.mem_of_getElem? (i := 4) rfl)) rfl dX6_readOrder_106 ?_
      refine lv_aload_n hx hb dX6_readOrder_109 rfl (lv_at hl 2 rfl) ?_
      refine dp_get hx hb hts (dp_hin 32 rfl) hown hK hM.1 rfl 12 (by decide) (hts (.fieldLink RX6 165 "DroopBoardModel" "orders" "I") (List.mem_of_getElem? (i := 5) rfl)) rfl dX6_readOrder_110 ?_
      refine lv_iload_n hx hb dX6_readOrder_113 rfl (lv_at hl 1 rfl) ?_
      refine dp_iast (A := A6 μ) hx hb hK hM.2.2.2.2.2.2.2.1 (⟨7, by decide, rfl⟩ : A6 μ (μ 7)) hS 0 rfl o rfl (by omega) (by decide) dX6_readOrder_114 (fun H12 locs hH12 hzH12 hkH12 hS => ?_)
      have hM := hM.a7 (X' := upd L1 o (B a)) hμ hH12 hkH12
      refine lv_aload_n hx hb dX6_readOrder_115 rfl (lv_at hl 2 rfl) ?_
      refine lv_dup hx hb dX6_readOrder_116 rfl ?_
      refine dp_get hx hb hts (dp_hin 32 rfl) hown hK hM.1 rfl 12 (by decide) (hts (.fieldLink RX6 165 "DroopBoardModel" "orders" "I") (List.mem_of_getElem? (i := 5) rfl)) rfl dX6_readOrder_117 ?_
      refine lv_iconst (v := 1) hx hb dX6_readOrder_120 (by decide) ?_
      refine lv_iadd hx hb dX6_readOrder_121 ?_
      rw [nI_1 o]
      refine dp_put (A := A6 μ) (v := .int (nI (o + 1))) hx hb hts (dp_hin 32 rfl) tyX6 tyX6_ok nmX6 hown hK hM.1 (⟨0, by decide, rfl⟩ : A6 μ (μ 0)) hS rfl 12 (by decide) (hts (.fieldLink RX6 165 "DroopBoardModel" "orders" "I") (List.mem_of_getElem? (i := 5) rfl)) rfl rfl rfl (Nat.le_of_ble_eq_true rfl) dX6_readOrder_122 (fun H13 locs hH13 hzH13 hkH13 hS => ?_)
      have hM := hM.o (sm' := sm) (kp' := kp) (th' := th) (la' := la) (ln' := (nI len)) (sp' := (nI e9)) (od' := (nI (o + 1))) (hs' := hs) hμ hH13 hkH13
      refine lv_iconst (v := 1) hx hb dX6_readOrder_125 (by decide) ?_
      exact W.zret (ty := .boolean) hx hb hr rfl (fun t ht hW => ⟨⟨1, H13, rfl, Or.inl ⟨rfl, e9, _, X2, X3, ⟨hR, upd_eq, (Or.inr (Or.inr (Or.inl c21)))⟩, hfin, (fun k q => ⟨upd_ne q, hag k q⟩), hM⟩, ht⟩, hS.F ht⟩) hS.2.2 dX6_readOrder_126
    · refine lv_if_ne (tgt := 105) hx hb dX6_readOrder_100 (by decide) (fun c25 => absurd c25 (by decide)) (fun c25 => ?_)
      refine lv_iconst (v := 0) hx hb dX6_readOrder_103 (by decide) ?_
      exact W.zret (ty := .boolean) hx hb hr rfl (fun t ht hW => ⟨⟨0, H11, rfl, Or.inr ⟨rfl, p2, _, X2, X3, hbad, hp2, hM⟩, ht⟩, hS.F ht⟩) hS.2.2 dX6_readOrder_104
  refine lv_iload_n hx hb dX6_readOrder_43 rfl (lv_at hl 0 rfl) ?_
  refine lv_bipush (v := 99) hx hb dX6_readOrder_44 (by decide) ?_
  refine lv_icmp_eq (tgt := 67) hx hb dX6_readOrder_46 (by decide) (fun c26 => ?_) (fun c26 => ?_)
  · refine lv_iconst (v := 1) hx hb dX6_readOrder_67 (by decide) ?_
    refine lv_goto (tgt := 72) hx hb dX6_readOrder_68 (by decide) ?_
    refine lv_istore_n (lv' := [(2, .int 1), (1, .int (B a)), (0, .ref (μ 0))]) hx hb dX6_readOrder_72 rfl hl (by decide) rfl (fun ls hl => ?_)
    refine lv_aload_n hx hb dX6_readOrder_73 rfl (lv_at hl 2 rfl) ?_
    refine lv_dup hx hb dX6_readOrder_74 rfl ?_
    refine dp_get hx hb hts (dp_hin 32 rfl) hown hK hM.1 rfl 11 (by decide) (hts (.fieldLink RX6 156 "DroopBoardModel" "spot" "I") (List.mem_of_getElem? (i := 1) rfl)) rfl dX6_readOrder_75 ?_
    refine lv_iload_n hx hb dX6_readOrder_78 rfl (lv_at hl 0 rfl) ?_
    refine lv_if_eq (tgt := 86) hx hb dX6_readOrder_79 (by decide) (fun c27 => absurd c27 (by decide)) (fun c27 => ?_)
    refine lv_iconst (v := 1) hx hb dX6_readOrder_82 (by decide) ?_
    refine lv_goto (tgt := 87) hx hb dX6_readOrder_83 (by decide) ?_
    refine lv_iadd hx hb dX6_readOrder_87 ?_
    rw [nI_1 a]
    refine dp_put (A := A6 μ) (v := .int (nI (a + 1))) hx hb hts (dp_hin 32 rfl) tyX6 tyX6_ok nmX6 hown hK hM.1 (⟨0, by decide, rfl⟩ : A6 μ (μ 0)) hS rfl 11 (by decide) (hts (.fieldLink RX6 156 "DroopBoardModel" "spot" "I") (List.mem_of_getElem? (i := 1) rfl)) rfl rfl rfl (Nat.le_of_ble_eq_true rfl) dX6_readOrder_88 (fun H14 locs hH14 hzH14 hkH14 hS => ?_)
    have hM := hM.o (sm' := sm) (kp' := kp) (th' := th) (la' := la) (ln' := (nI len)) (sp' := (nI (a + 1))) (od' := (nI o)) (hs' := hs) hμ hH14 hkH14
    refine lv_iload_n hx hb dX6_readOrder_91 rfl (lv_at hl 0 rfl) ?_
    refine lv_if_eq (tgt := 103) hx hb dX6_readOrder_92 (by decide) (fun c28 => absurd c28 (by decide)) (fun c28 => ?_)
    refine lv_aload_n hx hb dX6_readOrder_95 rfl (lv_at hl 2 rfl) ?_
    refine lv_iload_n hx hb dX6_readOrder_96 rfl (lv_at hl 1 rfl) ?_
    refine dp_Vi hF hK hN (c_X6_readRest l D G μ R S N E P B L1 L2 L3 sm kp th la (nI len) (nI (a + 1)) (nI o) hs a len o (B a) _ hμ hM rfl rfl hp1 hl6 rfl ho (Or.inr (Or.inr (Or.inr (Or.inl c26)))) (by rw [df_s hd0, nx1])) (cwV 1 hts gX6_readOrder_X6_readRest rfl rfl rfl (by decide +kernel) ⟨Nat.le_of_ble_eq_true rfl, Nat.le_of_ble_eq_true rfl⟩) (dp_recv hK hM.1 rfl) hS (fun q hq => hq) [] rfl rfl hl.1 (Nat.le_of_ble_eq_true rfl) dX6_readOrder_97 ⟨Nat.le_of_ble_eq_true rfl, Nat.le_of_ble_eq_true rfl⟩ (fun rH15 H15 locs hp hzH15 hkH15 hS => ?_)
    rcases hp with ⟨rfl, e9, X2, X3, hR, hfin, hag, hM⟩ | ⟨rfl, p2, X2, X3, hbad, hp2, hag, hM⟩
    · refine lv_if_ne (tgt := 105) hx hb dX6_readOrder_100 (by decide) (fun c29 => ?_) (fun c29 => absurd c29 (by decide))
      refine lv_aload_n hx hb dX6_readOrder_105 rfl (lv_at hl 2 rfl) ?_
      refine dp_get hx hb hts (dp_hin 32 rfl) hown hK hM.1 rfl 13 (by decide) (hts (.fieldLink RX6 28 "DroopBoardModel" "letter" "[I") (List.mem_of_getElem? (i := 4) rfl)) rfl dX6_readOrder_106 ?_
      refine lv_aload_n hx hb dX6_readOrder_109 rfl (lv_at hl 2 rfl) ?_
      refine dp_get hx hb hts (dp_hin 32 rfl) hown hK hM.1 rfl 12 (by decide) (hts (.fieldLink RX6 165 "DroopBoardModel" "orders" "I") (List.mem_of_getElem? (i := 5) rfl)) rfl dX6_readOrder_110 ?_
      refine lv_iload_n hx hb dX6_readOrder_113 rfl (lv_at hl 1 rfl) ?_
      refine dp_iast (A := A6 μ) hx hb hK hM.2.2.2.2.2.2.2.1 (⟨7, by decide, rfl⟩ : A6 μ (μ 7)) hS 0 rfl o rfl (by omega) (by decide) dX6_readOrder_114 (fun H16 locs hH16 hzH16 hkH16 hS => ?_)
      have hM := hM.a7 (X' := upd L1 o (B a)) hμ hH16 hkH16
      refine lv_aload_n hx hb dX6_readOrder_115 rfl (lv_at hl 2 rfl) ?_
      refine lv_dup hx hb dX6_readOrder_116 rfl ?_
      refine dp_get hx hb hts (dp_hin 32 rfl) hown hK hM.1 rfl 12 (by decide) (hts (.fieldLink RX6 165 "DroopBoardModel" "orders" "I") (List.mem_of_getElem? (i := 5) rfl)) rfl dX6_readOrder_117 ?_
      refine lv_iconst (v := 1) hx hb dX6_readOrder_120 (by decide) ?_
      refine lv_iadd hx hb dX6_readOrder_121 ?_
      rw [nI_1 o]
      refine dp_put (A := A6 μ) (v := .int (nI (o + 1))) hx hb hts (dp_hin 32 rfl) tyX6 tyX6_ok nmX6 hown hK hM.1 (⟨0, by decide, rfl⟩ : A6 μ (μ 0)) hS rfl 12 (by decide) (hts (.fieldLink RX6 165 "DroopBoardModel" "orders" "I") (List.mem_of_getElem? (i := 5) rfl)) rfl rfl rfl (Nat.le_of_ble_eq_true rfl) dX6_readOrder_122 (fun H17 locs hH17 hzH17 hkH17 hS => ?_)
      have hM := hM.o (sm' := sm) (kp' := kp) (th' := th) (la' := la) (ln' := (nI len)) (sp' := (nI e9)) (od' := (nI (o + 1))) (hs' := hs) hμ hH17 hkH17
      refine lv_iconst (v := 1) hx hb dX6_readOrder_125 (by decide) ?_
      exact W.zret (ty := .boolean) hx hb hr rfl (fun t ht hW => ⟨⟨1, H17, rfl, Or.inl ⟨rfl, e9, _, X2, X3, ⟨hR, upd_eq, (Or.inr (Or.inr (Or.inr (Or.inl c26))))⟩, hfin, (fun k q => ⟨upd_ne q, hag k q⟩), hM⟩, ht⟩, hS.F ht⟩) hS.2.2 dX6_readOrder_126
    · refine lv_if_ne (tgt := 105) hx hb dX6_readOrder_100 (by decide) (fun c30 => absurd c30 (by decide)) (fun c30 => ?_)
      refine lv_iconst (v := 0) hx hb dX6_readOrder_103 (by decide) ?_
      exact W.zret (ty := .boolean) hx hb hr rfl (fun t ht hW => ⟨⟨0, H15, rfl, Or.inr ⟨rfl, p2, _, X2, X3, hbad, hp2, hM⟩, ht⟩, hS.F ht⟩) hS.2.2 dX6_readOrder_104
  refine lv_iload_n hx hb dX6_readOrder_49 rfl (lv_at hl 0 rfl) ?_
  refine lv_bipush (v := 111) hx hb dX6_readOrder_50 (by decide) ?_
  refine lv_icmp_eq (tgt := 67) hx hb dX6_readOrder_52 (by decide) (fun c31 => ?_) (fun c31 => ?_)
  · refine lv_iconst (v := 1) hx hb dX6_readOrder_67 (by decide) ?_
    refine lv_goto (tgt := 72) hx hb dX6_readOrder_68 (by decide) ?_
    refine lv_istore_n (lv' := [(2, .int 1), (1, .int (B a)), (0, .ref (μ 0))]) hx hb dX6_readOrder_72 rfl hl (by decide) rfl (fun ls hl => ?_)
    refine lv_aload_n hx hb dX6_readOrder_73 rfl (lv_at hl 2 rfl) ?_
    refine lv_dup hx hb dX6_readOrder_74 rfl ?_
    refine dp_get hx hb hts (dp_hin 32 rfl) hown hK hM.1 rfl 11 (by decide) (hts (.fieldLink RX6 156 "DroopBoardModel" "spot" "I") (List.mem_of_getElem? (i := 1) rfl)) rfl dX6_readOrder_75 ?_
    refine lv_iload_n hx hb dX6_readOrder_78 rfl (lv_at hl 0 rfl) ?_
    refine lv_if_eq (tgt := 86) hx hb dX6_readOrder_79 (by decide) (fun c32 => absurd c32 (by decide)) (fun c32 => ?_)
    refine lv_iconst (v := 1) hx hb dX6_readOrder_82 (by decide) ?_
    refine lv_goto (tgt := 87) hx hb dX6_readOrder_83 (by decide) ?_
    refine lv_iadd hx hb dX6_readOrder_87 ?_
    rw [nI_1 a]
    refine dp_put (A := A6 μ) (v := .int (nI (a + 1))) hx hb hts (dp_hin 32 rfl) tyX6 tyX6_ok nmX6 hown hK hM.1 (⟨0, by decide, rfl⟩ : A6 μ (μ 0)) hS rfl 11 (by decide) (hts (.fieldLink RX6 156 "DroopBoardModel" "spot" "I") (List.mem_of_getElem? (i := 1) rfl)) rfl rfl rfl (Nat.le_of_ble_eq_true rfl) dX6_readOrder_88 (fun H18 locs hH18 hzH18 hkH18 hS => ?_)
    have hM := hM.o (sm' := sm) (kp' := kp) (th' := th) (la' := la) (ln' := (nI len)) (sp' := (nI (a + 1))) (od' := (nI o)) (hs' := hs) hμ hH18 hkH18
    refine lv_iload_n hx hb dX6_readOrder_91 rfl (lv_at hl 0 rfl) ?_
    refine lv_if_eq (tgt := 103) hx hb dX6_readOrder_92 (by decide) (fun c33 => absurd c33 (by decide)) (fun c33 => ?_)
    refine lv_aload_n hx hb dX6_readOrder_95 rfl (lv_at hl 2 rfl) ?_
    refine lv_iload_n hx hb dX6_readOrder_96 rfl (lv_at hl 1 rfl) ?_
    refine dp_Vi hF hK hN (c_X6_readRest l D G μ R S N E P B L1 L2 L3 sm kp th la (nI len) (nI (a + 1)) (nI o) hs a len o (B a) _ hμ hM rfl rfl hp1 hl6 rfl ho (Or.inr (Or.inr (Or.inr (Or.inr (Or.inl c31))))) (by rw [df_s hd0, nx1])) (cwV 1 hts gX6_readOrder_X6_readRest rfl rfl rfl (by decide +kernel) ⟨Nat.le_of_ble_eq_true rfl, Nat.le_of_ble_eq_true rfl⟩) (dp_recv hK hM.1 rfl) hS (fun q hq => hq) [] rfl rfl hl.1 (Nat.le_of_ble_eq_true rfl) dX6_readOrder_97 ⟨Nat.le_of_ble_eq_true rfl, Nat.le_of_ble_eq_true rfl⟩ (fun rH19 H19 locs hp hzH19 hkH19 hS => ?_)
    rcases hp with ⟨rfl, e9, X2, X3, hR, hfin, hag, hM⟩ | ⟨rfl, p2, X2, X3, hbad, hp2, hag, hM⟩
    · refine lv_if_ne (tgt := 105) hx hb dX6_readOrder_100 (by decide) (fun c34 => ?_) (fun c34 => absurd c34 (by decide))
      refine lv_aload_n hx hb dX6_readOrder_105 rfl (lv_at hl 2 rfl) ?_
      refine dp_get hx hb hts (dp_hin 32 rfl) hown hK hM.1 rfl 13 (by decide) (hts (.fieldLink RX6 28 "DroopBoardModel" "letter" "[I") (List.mem_of_getElem? (i := 4) rfl)) rfl dX6_readOrder_106 ?_
      refine lv_aload_n hx hb dX6_readOrder_109 rfl (lv_at hl 2 rfl) ?_
      refine dp_get hx hb hts (dp_hin 32 rfl) hown hK hM.1 rfl 12 (by decide) (hts (.fieldLink RX6 165 "DroopBoardModel" "orders" "I") (List.mem_of_getElem? (i := 5) rfl)) rfl dX6_readOrder_110 ?_
      refine lv_iload_n hx hb dX6_readOrder_113 rfl (lv_at hl 1 rfl) ?_
      refine dp_iast (A := A6 μ) hx hb hK hM.2.2.2.2.2.2.2.1 (⟨7, by decide, rfl⟩ : A6 μ (μ 7)) hS 0 rfl o rfl (by omega) (by decide) dX6_readOrder_114 (fun H20 locs hH20 hzH20 hkH20 hS => ?_)
      have hM := hM.a7 (X' := upd L1 o (B a)) hμ hH20 hkH20
      refine lv_aload_n hx hb dX6_readOrder_115 rfl (lv_at hl 2 rfl) ?_
      refine lv_dup hx hb dX6_readOrder_116 rfl ?_
      refine dp_get hx hb hts (dp_hin 32 rfl) hown hK hM.1 rfl 12 (by decide) (hts (.fieldLink RX6 165 "DroopBoardModel" "orders" "I") (List.mem_of_getElem? (i := 5) rfl)) rfl dX6_readOrder_117 ?_
      refine lv_iconst (v := 1) hx hb dX6_readOrder_120 (by decide) ?_
      refine lv_iadd hx hb dX6_readOrder_121 ?_
      rw [nI_1 o]
      refine dp_put (A := A6 μ) (v := .int (nI (o + 1))) hx hb hts (dp_hin 32 rfl) tyX6 tyX6_ok nmX6 hown hK hM.1 (⟨0, by decide, rfl⟩ : A6 μ (μ 0)) hS rfl 12 (by decide) (hts (.fieldLink RX6 165 "DroopBoardModel" "orders" "I") (List.mem_of_getElem? (i := 5) rfl)) rfl rfl rfl (Nat.le_of_ble_eq_true rfl) dX6_readOrder_122 (fun H21 locs hH21 hzH21 hkH21 hS => ?_)
      have hM := hM.o (sm' := sm) (kp' := kp) (th' := th) (la' := la) (ln' := (nI len)) (sp' := (nI e9)) (od' := (nI (o + 1))) (hs' := hs) hμ hH21 hkH21
      refine lv_iconst (v := 1) hx hb dX6_readOrder_125 (by decide) ?_
      exact W.zret (ty := .boolean) hx hb hr rfl (fun t ht hW => ⟨⟨1, H21, rfl, Or.inl ⟨rfl, e9, _, X2, X3, ⟨hR, upd_eq, (Or.inr (Or.inr (Or.inr (Or.inr (Or.inl c31)))))⟩, hfin, (fun k q => ⟨upd_ne q, hag k q⟩), hM⟩, ht⟩, hS.F ht⟩) hS.2.2 dX6_readOrder_126
    · refine lv_if_ne (tgt := 105) hx hb dX6_readOrder_100 (by decide) (fun c35 => absurd c35 (by decide)) (fun c35 => ?_)
      refine lv_iconst (v := 0) hx hb dX6_readOrder_103 (by decide) ?_
      exact W.zret (ty := .boolean) hx hb hr rfl (fun t ht hW => ⟨⟨0, H19, rfl, Or.inr ⟨rfl, p2, _, X2, X3, hbad, hp2, hM⟩, ht⟩, hS.F ht⟩) hS.2.2 dX6_readOrder_104
  refine lv_iload_n hx hb dX6_readOrder_55 rfl (lv_at hl 0 rfl) ?_
  refine lv_bipush (v := 102) hx hb dX6_readOrder_56 (by decide) ?_
  refine lv_icmp_eq (tgt := 67) hx hb dX6_readOrder_58 (by decide) (fun c36 => ?_) (fun c36 => ?_)
  · refine lv_iconst (v := 1) hx hb dX6_readOrder_67 (by decide) ?_
    refine lv_goto (tgt := 72) hx hb dX6_readOrder_68 (by decide) ?_
    refine lv_istore_n (lv' := [(2, .int 1), (1, .int (B a)), (0, .ref (μ 0))]) hx hb dX6_readOrder_72 rfl hl (by decide) rfl (fun ls hl => ?_)
    refine lv_aload_n hx hb dX6_readOrder_73 rfl (lv_at hl 2 rfl) ?_
    refine lv_dup hx hb dX6_readOrder_74 rfl ?_
    refine dp_get hx hb hts (dp_hin 32 rfl) hown hK hM.1 rfl 11 (by decide) (hts (.fieldLink RX6 156 "DroopBoardModel" "spot" "I") (List.mem_of_getElem? (i := 1) rfl)) rfl dX6_readOrder_75 ?_
    refine lv_iload_n hx hb dX6_readOrder_78 rfl (lv_at hl 0 rfl) ?_
    refine lv_if_eq (tgt := 86) hx hb dX6_readOrder_79 (by decide) (fun c37 => absurd c37 (by decide)) (fun c37 => ?_)
    refine lv_iconst (v := 1) hx hb dX6_readOrder_82 (by decide) ?_
    refine lv_goto (tgt := 87) hx hb dX6_readOrder_83 (by decide) ?_
    refine lv_iadd hx hb dX6_readOrder_87 ?_
    rw [nI_1 a]
    refine dp_put (A := A6 μ) (v := .int (nI (a + 1))) hx hb hts (dp_hin 32 rfl) tyX6 tyX6_ok nmX6 hown hK hM.1 (⟨0, by decide, rfl⟩ : A6 μ (μ 0)) hS rfl 11 (by decide) (hts (.fieldLink RX6 156 "DroopBoardModel" "spot" "I") (List.mem_of_getElem? (i := 1) rfl)) rfl rfl rfl (Nat.le_of_ble_eq_true rfl) dX6_readOrder_88 (fun H22 locs hH22 hzH22 hkH22 hS => ?_)
    have hM := hM.o (sm' := sm) (kp' := kp) (th' := th) (la' := la) (ln' := (nI len)) (sp' := (nI (a + 1))) (od' := (nI o)) (hs' := hs) hμ hH22 hkH22
    refine lv_iload_n hx hb dX6_readOrder_91 rfl (lv_at hl 0 rfl) ?_
    refine lv_if_eq (tgt := 103) hx hb dX6_readOrder_92 (by decide) (fun c38 => absurd c38 (by decide)) (fun c38 => ?_)
    refine lv_aload_n hx hb dX6_readOrder_95 rfl (lv_at hl 2 rfl) ?_
    refine lv_iload_n hx hb dX6_readOrder_96 rfl (lv_at hl 1 rfl) ?_
    refine dp_Vi hF hK hN (c_X6_readRest l D G μ R S N E P B L1 L2 L3 sm kp th la (nI len) (nI (a + 1)) (nI o) hs a len o (B a) _ hμ hM rfl rfl hp1 hl6 rfl ho (Or.inr (Or.inr (Or.inr (Or.inr (Or.inr (Or.inl c36)))))) (by rw [df_s hd0, nx1])) (cwV 1 hts gX6_readOrder_X6_readRest rfl rfl rfl (by decide +kernel) ⟨Nat.le_of_ble_eq_true rfl, Nat.le_of_ble_eq_true rfl⟩) (dp_recv hK hM.1 rfl) hS (fun q hq => hq) [] rfl rfl hl.1 (Nat.le_of_ble_eq_true rfl) dX6_readOrder_97 ⟨Nat.le_of_ble_eq_true rfl, Nat.le_of_ble_eq_true rfl⟩ (fun rH23 H23 locs hp hzH23 hkH23 hS => ?_)
    rcases hp with ⟨rfl, e9, X2, X3, hR, hfin, hag, hM⟩ | ⟨rfl, p2, X2, X3, hbad, hp2, hag, hM⟩
    · refine lv_if_ne (tgt := 105) hx hb dX6_readOrder_100 (by decide) (fun c39 => ?_) (fun c39 => absurd c39 (by decide))
      refine lv_aload_n hx hb dX6_readOrder_105 rfl (lv_at hl 2 rfl) ?_
      refine dp_get hx hb hts (dp_hin 32 rfl) hown hK hM.1 rfl 13 (by decide) (hts (.fieldLink RX6 28 "DroopBoardModel" "letter" "[I") (List.mem_of_getElem? (i := 4) rfl)) rfl dX6_readOrder_106 ?_
      refine lv_aload_n hx hb dX6_readOrder_109 rfl (lv_at hl 2 rfl) ?_
      refine dp_get hx hb hts (dp_hin 32 rfl) hown hK hM.1 rfl 12 (by decide) (hts (.fieldLink RX6 165 "DroopBoardModel" "orders" "I") (List.mem_of_getElem? (i := 5) rfl)) rfl dX6_readOrder_110 ?_
      refine lv_iload_n hx hb dX6_readOrder_113 rfl (lv_at hl 1 rfl) ?_
      refine dp_iast (A := A6 μ) hx hb hK hM.2.2.2.2.2.2.2.1 (⟨7, by decide, rfl⟩ : A6 μ (μ 7)) hS 0 rfl o rfl (by omega) (by decide) dX6_readOrder_114 (fun H24 locs hH24 hzH24 hkH24 hS => ?_)
      have hM := hM.a7 (X' := upd L1 o (B a)) hμ hH24 hkH24
      refine lv_aload_n hx hb dX6_readOrder_115 rfl (lv_at hl 2 rfl) ?_
      refine lv_dup hx hb dX6_readOrder_116 rfl ?_
      refine dp_get hx hb hts (dp_hin 32 rfl) hown hK hM.1 rfl 12 (by decide) (hts (.fieldLink RX6 165 "DroopBoardModel" "orders" "I") (List.mem_of_getElem? (i := 5) rfl)) rfl dX6_readOrder_117 ?_
      refine lv_iconst (v := 1) hx hb dX6_readOrder_120 (by decide) ?_
      refine lv_iadd hx hb dX6_readOrder_121 ?_
      rw [nI_1 o]
      refine dp_put (A := A6 μ) (v := .int (nI (o + 1))) hx hb hts (dp_hin 32 rfl) tyX6 tyX6_ok nmX6 hown hK hM.1 (⟨0, by decide, rfl⟩ : A6 μ (μ 0)) hS rfl 12 (by decide) (hts (.fieldLink RX6 165 "DroopBoardModel" "orders" "I") (List.mem_of_getElem? (i := 5) rfl)) rfl rfl rfl (Nat.le_of_ble_eq_true rfl) dX6_readOrder_122 (fun H25 locs hH25 hzH25 hkH25 hS => ?_)
      have hM := hM.o (sm' := sm) (kp' := kp) (th' := th) (la' := la) (ln' := (nI len)) (sp' := (nI e9)) (od' := (nI (o + 1))) (hs' := hs) hμ hH25 hkH25
      refine lv_iconst (v := 1) hx hb dX6_readOrder_125 (by decide) ?_
      exact W.zret (ty := .boolean) hx hb hr rfl (fun t ht hW => ⟨⟨1, H25, rfl, Or.inl ⟨rfl, e9, _, X2, X3, ⟨hR, upd_eq, (Or.inr (Or.inr (Or.inr (Or.inr (Or.inr (Or.inl c36))))))⟩, hfin, (fun k q => ⟨upd_ne q, hag k q⟩), hM⟩, ht⟩, hS.F ht⟩) hS.2.2 dX6_readOrder_126
    · refine lv_if_ne (tgt := 105) hx hb dX6_readOrder_100 (by decide) (fun c40 => absurd c40 (by decide)) (fun c40 => ?_)
      refine lv_iconst (v := 0) hx hb dX6_readOrder_103 (by decide) ?_
      exact W.zret (ty := .boolean) hx hb hr rfl (fun t ht hW => ⟨⟨0, H23, rfl, Or.inr ⟨rfl, p2, _, X2, X3, hbad, hp2, hM⟩, ht⟩, hS.F ht⟩) hS.2.2 dX6_readOrder_104
  refine lv_iload_n hx hb dX6_readOrder_61 rfl (lv_at hl 0 rfl) ?_
  refine lv_bipush (v := 116) hx hb dX6_readOrder_62 (by decide) ?_
  refine lv_icmp_ne (tgt := 71) hx hb dX6_readOrder_64 (by decide) (fun c41 => ?_) (fun c41 => ?_)
  · refine lv_iconst (v := 0) hx hb dX6_readOrder_71 (by decide) ?_
    refine lv_istore_n (lv' := [(2, .int 0), (1, .int (B a)), (0, .ref (μ 0))]) hx hb dX6_readOrder_72 rfl hl (by decide) rfl (fun ls hl => ?_)
    refine lv_aload_n hx hb dX6_readOrder_73 rfl (lv_at hl 2 rfl) ?_
    refine lv_dup hx hb dX6_readOrder_74 rfl ?_
    refine dp_get hx hb hts (dp_hin 32 rfl) hown hK hM.1 rfl 11 (by decide) (hts (.fieldLink RX6 156 "DroopBoardModel" "spot" "I") (List.mem_of_getElem? (i := 1) rfl)) rfl dX6_readOrder_75 ?_
    refine lv_iload_n hx hb dX6_readOrder_78 rfl (lv_at hl 0 rfl) ?_
    refine lv_if_eq (tgt := 86) hx hb dX6_readOrder_79 (by decide) (fun c42 => ?_) (fun c42 => absurd (by decide) c42)
    refine lv_iconst (v := 0) hx hb dX6_readOrder_86 (by decide) ?_
    refine lv_iadd hx hb dX6_readOrder_87 ?_
    rw [show nI a + 0 = nI a from Int32.add_zero _]
    refine dp_put (A := A6 μ) (v := .int (nI a)) hx hb hts (dp_hin 32 rfl) tyX6 tyX6_ok nmX6 hown hK hM.1 (⟨0, by decide, rfl⟩ : A6 μ (μ 0)) hS rfl 11 (by decide) (hts (.fieldLink RX6 156 "DroopBoardModel" "spot" "I") (List.mem_of_getElem? (i := 1) rfl)) rfl rfl rfl (Nat.le_of_ble_eq_true rfl) dX6_readOrder_88 (fun H26 locs hH26 hzH26 hkH26 hS => ?_)
    have hM := hM.o (sm' := sm) (kp' := kp) (th' := th) (la' := la) (ln' := (nI len)) (sp' := (nI a)) (od' := (nI o)) (hs' := hs) hμ hH26 hkH26
    refine lv_iload_n hx hb dX6_readOrder_91 rfl (lv_at hl 0 rfl) ?_
    refine lv_if_eq (tgt := 103) hx hb dX6_readOrder_92 (by decide) (fun c43 => ?_) (fun c43 => absurd (by decide) c43)
    refine lv_iconst (v := 0) hx hb dX6_readOrder_103 (by decide) ?_
    exact W.zret (ty := .boolean) hx hb hr rfl (fun t ht hW => ⟨⟨0, H26, rfl, Or.inr ⟨rfl, a, _, _, _, bad_n (X := True) hd0 (by decide) (by decide) (by decide) hpl (Or.inr True.intro) (fun _ => (nx1 _).trans (aft_no c11 c16 c21 c26 c31 c36 c41)), hpl, hM⟩, ht⟩, hS.F ht⟩) hS.2.2 dX6_readOrder_104
  refine lv_iconst (v := 1) hx hb dX6_readOrder_67 (by decide) ?_
  refine lv_goto (tgt := 72) hx hb dX6_readOrder_68 (by decide) ?_
  refine lv_istore_n (lv' := [(2, .int 1), (1, .int (B a)), (0, .ref (μ 0))]) hx hb dX6_readOrder_72 rfl hl (by decide) rfl (fun ls hl => ?_)
  refine lv_aload_n hx hb dX6_readOrder_73 rfl (lv_at hl 2 rfl) ?_
  refine lv_dup hx hb dX6_readOrder_74 rfl ?_
  refine dp_get hx hb hts (dp_hin 32 rfl) hown hK hM.1 rfl 11 (by decide) (hts (.fieldLink RX6 156 "DroopBoardModel" "spot" "I") (List.mem_of_getElem? (i := 1) rfl)) rfl dX6_readOrder_75 ?_
  refine lv_iload_n hx hb dX6_readOrder_78 rfl (lv_at hl 0 rfl) ?_
  refine lv_if_eq (tgt := 86) hx hb dX6_readOrder_79 (by decide) (fun c44 => absurd c44 (by decide)) (fun c44 => ?_)
  refine lv_iconst (v := 1) hx hb dX6_readOrder_82 (by decide) ?_
  refine lv_goto (tgt := 87) hx hb dX6_readOrder_83 (by decide) ?_
  refine lv_iadd hx hb dX6_readOrder_87 ?_
  rw [nI_1 a]
  refine dp_put (A := A6 μ) (v := .int (nI (a + 1))) hx hb hts (dp_hin 32 rfl) tyX6 tyX6_ok nmX6 hown hK hM.1 (⟨0, by decide, rfl⟩ : A6 μ (μ 0)) hS rfl 11 (by decide) (hts (.fieldLink RX6 156 "DroopBoardModel" "spot" "I") (List.mem_of_getElem? (i := 1) rfl)) rfl rfl rfl (Nat.le_of_ble_eq_true rfl) dX6_readOrder_88 (fun H27 locs hH27 hzH27 hkH27 hS => ?_)
  have hM := hM.o (sm' := sm) (kp' := kp) (th' := th) (la' := la) (ln' := (nI len)) (sp' := (nI (a + 1))) (od' := (nI o)) (hs' := hs) hμ hH27 hkH27
  refine lv_iload_n hx hb dX6_readOrder_91 rfl (lv_at hl 0 rfl) ?_
  refine lv_if_eq (tgt := 103) hx hb dX6_readOrder_92 (by decide) (fun c45 => absurd c45 (by decide)) (fun c45 => ?_)
  refine lv_aload_n hx hb dX6_readOrder_95 rfl (lv_at hl 2 rfl) ?_
  refine lv_iload_n hx hb dX6_readOrder_96 rfl (lv_at hl 1 rfl) ?_
  refine dp_Vi hF hK hN (c_X6_readRest l D G μ R S N E P B L1 L2 L3 sm kp th la (nI len) (nI (a + 1)) (nI o) hs a len o (B a) _ hμ hM rfl rfl hp1 hl6 rfl ho (Or.inr (Or.inr (Or.inr (Or.inr (Or.inr (Or.inr (c41))))))) (by rw [df_s hd0, nx1])) (cwV 1 hts gX6_readOrder_X6_readRest rfl rfl rfl (by decide +kernel) ⟨Nat.le_of_ble_eq_true rfl, Nat.le_of_ble_eq_true rfl⟩) (dp_recv hK hM.1 rfl) hS (fun q hq => hq) [] rfl rfl hl.1 (Nat.le_of_ble_eq_true rfl) dX6_readOrder_97 ⟨Nat.le_of_ble_eq_true rfl, Nat.le_of_ble_eq_true rfl⟩ (fun rH28 H28 locs hp hzH28 hkH28 hS => ?_)
  rcases hp with ⟨rfl, e9, X2, X3, hR, hfin, hag, hM⟩ | ⟨rfl, p2, X2, X3, hbad, hp2, hag, hM⟩
  · refine lv_if_ne (tgt := 105) hx hb dX6_readOrder_100 (by decide) (fun c46 => ?_) (fun c46 => absurd c46 (by decide))
    refine lv_aload_n hx hb dX6_readOrder_105 rfl (lv_at hl 2 rfl) ?_
    refine dp_get hx hb hts (dp_hin 32 rfl) hown hK hM.1 rfl 13 (by decide) (hts (.fieldLink RX6 28 "DroopBoardModel" "letter" "[I") (List.mem_of_getElem? (i := 4) rfl)) rfl dX6_readOrder_106 ?_
    refine lv_aload_n hx hb dX6_readOrder_109 rfl (lv_at hl 2 rfl) ?_
    refine dp_get hx hb hts (dp_hin 32 rfl) hown hK hM.1 rfl 12 (by decide) (hts (.fieldLink RX6 165 "DroopBoardModel" "orders" "I") (List.mem_of_getElem? (i := 5) rfl)) rfl dX6_readOrder_110 ?_
    refine lv_iload_n hx hb dX6_readOrder_113 rfl (lv_at hl 1 rfl) ?_
    refine dp_iast (A := A6 μ) hx hb hK hM.2.2.2.2.2.2.2.1 (⟨7, by decide, rfl⟩ : A6 μ (μ 7)) hS 0 rfl o rfl (by omega) (by decide) dX6_readOrder_114 (fun H29 locs hH29 hzH29 hkH29 hS => ?_)
    have hM := hM.a7 (X' := upd L1 o (B a)) hμ hH29 hkH29
    refine lv_aload_n hx hb dX6_readOrder_115 rfl (lv_at hl 2 rfl) ?_
    refine lv_dup hx hb dX6_readOrder_116 rfl ?_
    refine dp_get hx hb hts (dp_hin 32 rfl) hown hK hM.1 rfl 12 (by decide) (hts (.fieldLink RX6 165 "DroopBoardModel" "orders" "I") (List.mem_of_getElem? (i := 5) rfl)) rfl dX6_readOrder_117 ?_
    refine lv_iconst (v := 1) hx hb dX6_readOrder_120 (by decide) ?_
    refine lv_iadd hx hb dX6_readOrder_121 ?_
    rw [nI_1 o]
    refine dp_put (A := A6 μ) (v := .int (nI (o + 1))) hx hb hts (dp_hin 32 rfl) tyX6 tyX6_ok nmX6 hown hK hM.1 (⟨0, by decide, rfl⟩ : A6 μ (μ 0)) hS rfl 12 (by decide) (hts (.fieldLink RX6 165 "DroopBoardModel" "orders" "I") (List.mem_of_getElem? (i := 5) rfl)) rfl rfl rfl (Nat.le_of_ble_eq_true rfl) dX6_readOrder_122 (fun H30 locs hH30 hzH30 hkH30 hS => ?_)
    have hM := hM.o (sm' := sm) (kp' := kp) (th' := th) (la' := la) (ln' := (nI len)) (sp' := (nI e9)) (od' := (nI (o + 1))) (hs' := hs) hμ hH30 hkH30
    refine lv_iconst (v := 1) hx hb dX6_readOrder_125 (by decide) ?_
    exact W.zret (ty := .boolean) hx hb hr rfl (fun t ht hW => ⟨⟨1, H30, rfl, Or.inl ⟨rfl, e9, _, X2, X3, ⟨hR, upd_eq, (Or.inr (Or.inr (Or.inr (Or.inr (Or.inr (Or.inr (c41)))))))⟩, hfin, (fun k q => ⟨upd_ne q, hag k q⟩), hM⟩, ht⟩, hS.F ht⟩) hS.2.2 dX6_readOrder_126
  · refine lv_if_ne (tgt := 105) hx hb dX6_readOrder_100 (by decide) (fun c47 => absurd c47 (by decide)) (fun c47 => ?_)
    refine lv_iconst (v := 0) hx hb dX6_readOrder_103 (by decide) ?_
    exact W.zret (ty := .boolean) hx hb hr rfl (fun t ht hW => ⟨⟨0, H28, rfl, Or.inr ⟨rfl, p2, _, X2, X3, hbad, hp2, hM⟩, ht⟩, hS.F ht⟩) hS.2.2 dX6_readOrder_104

set_option maxHeartbeats 600000 in
set_option maxRecDepth 100000 in
theorem c_X6_areOrders (l : Launch) (D : va_G) (G : Nat → ClassId) (μ : Nat → Nat) (R S N E P B L1 L2 L3 : Nat → Int32) (sm kp th la ln sp od : Int32) (hs : Int64) (len : Nat) (H : Heap) (hμ : inj 10 μ) (hM : MO D G μ R S N E P B L1 L2 L3 sm kp th la ln sp od hs H) (hln : ln = nI len) (hl6 : len ≤ 60) : Met l yX6_areOrders wsX6_areOrders ({ frames := 5, cells := 0, slots := 0, locals := 110 } : Room) (va_Pc [.ref (μ 0)] (CX D G H)) (QI (A6 μ) (fun r h => (1 = r ∧ ∃ (o : Nat) (sq : Nat → Nat) (X1 X2 X3 : Nat → Int32) (sp2 : Int32), chn B len X1 X2 X3 o sq ∧ sq o = len + 1 ∧ (dfa B len = 16 ∨ dfa B len = 15) ∧ o ≤ 20 ∧ MO D G μ R S N E P B X1 X2 X3 sm kp th la (nI len) sp2 (nI o) hs h) ∨ (0 = r ∧ ∃ (p2 : Nat) (X1 X2 X3 : Nat → Int32) (od2 : Int32), bad B len p2 ∧ p2 ≤ len ∧ MO D G μ R S N E P B X1 X2 X3 sm kp th la (nI len) (nI p2) od2 hs h))) 0 0 (A6 μ) := by
  refine Met.ofW (cc := cX6_areOrders) (maxL := 2) (ret := (some .boolean)) (by decide) rfl ?_
  intro p e s m args below meth c s₁ B0 hml hv
  obtain ⟨rfl, rfl, hK, hN⟩ := hv
  have hx := B0.exec
  have hb := B0.bytes
  have hr := B0.returns
  have hts := atoms_spec (ws := wsX6_areOrders) B0.pre
  have hown : s.vm.findClass RX6 = some m.cls := findClass_of_methodNamed B0.named
  have hlocks := B0.notSynchronized
  have hF : CallFix p m c cX6_areOrders 2 s ([.ref (μ 0)] : List Value).toArray wsX6_areOrders RX6 := ⟨hx, hb, hml, hown, hts⟩
  have hS : va_S (A6 μ) s.heap s.heap [] := va_S.rf
  have hl := lv_entry ([.ref (μ 0)]) (n := 2) (Nat.le_of_ble_eq_true rfl)
  rw [lg_entry_eq]
  generalize (lg_sl ([.ref (μ 0)]) ++ List.replicate (2 - (lg_sl ([.ref (μ 0)])).length) Slot.unset).toArray = ls at hl ⊢
  have hl : lv_has ls 2 [(0, .ref (μ 0))] := hl
  refine lv_aload_n hx hb dX6_areOrders_0 rfl (lv_at hl 0 rfl) ?_
  refine lv_iconst (v := 0) hx hb dX6_areOrders_1 (by decide) ?_
  refine dp_put (A := A6 μ) (v := .int 0) hx hb hts (dp_hin 36 rfl) tyX6 tyX6_ok nmX6 hown hK hM.1 (⟨0, by decide, rfl⟩ : A6 μ (μ 0)) hS rfl 11 (by decide) (hts (.fieldLink RX6 156 "DroopBoardModel" "spot" "I") (List.mem_of_getElem? (i := 1) rfl)) rfl rfl rfl (Nat.le_of_ble_eq_true rfl) dX6_areOrders_2 (fun H1 locs hH1 hzH1 hkH1 hS => ?_)
  have hM := hM.o (sm' := sm) (kp' := kp) (th' := th) (la' := la) (ln' := ln) (sp' := 0) (od' := od) (hs' := hs) hμ hH1 hkH1
  refine lv_aload_n hx hb dX6_areOrders_5 rfl (lv_at hl 0 rfl) ?_
  refine lv_iconst (v := 0) hx hb dX6_areOrders_6 (by decide) ?_
  refine dp_put (A := A6 μ) (v := .int 0) hx hb hts (dp_hin 36 rfl) tyX6 tyX6_ok nmX6 hown hK hM.1 (⟨0, by decide, rfl⟩ : A6 μ (μ 0)) hS rfl 12 (by decide) (hts (.fieldLink RX6 165 "DroopBoardModel" "orders" "I") (List.mem_of_getElem? (i := 2) rfl)) rfl rfl rfl (Nat.le_of_ble_eq_true rfl) dX6_areOrders_7 (fun H2 locs hH2 hzH2 hkH2 hS => ?_)
  have hM := hM.o (sm' := sm) (kp' := kp) (th' := th) (la' := la) (ln' := ln) (sp' := 0) (od' := 0) (hs' := hs) hμ hH2 hkH2
  refine lv_aload_n hx hb dX6_areOrders_10 rfl (lv_at hl 0 rfl) ?_
  refine dp_Vi hF hK hN (c_X6_readOrder l D G μ R S N E P B L1 L2 L3 sm kp th la ln 0 0 hs 0 len 0 _ hμ hM rfl hln (Nat.zero_le _) hl6 rfl (by decide) rfl) (cwV 0 hts gX6_areOrders_X6_readOrder rfl rfl rfl (by decide +kernel) ⟨Nat.le_of_ble_eq_true rfl, Nat.le_of_ble_eq_true rfl⟩) (dp_recv hK hM.1 rfl) hS (fun q hq => hq) [] rfl rfl hl.1 (Nat.le_of_ble_eq_true rfl) dX6_areOrders_11 ⟨Nat.le_of_ble_eq_true rfl, Nat.le_of_ble_eq_true rfl⟩ (fun rH3 H3 locs hp hzH3 hkH3 hS => ?_)
  rcases hp with ⟨rfl, e8, X1, X2, X3, hOK, hfin, hag, hM⟩ | ⟨rfl, p2, X1, X2, X3, hbad, hp2, hM⟩
  · have hOK2 := hOK.1.2.1
    refine lv_istore_n (lv' := [(1, .int 1), (0, .ref (μ 0))]) hx hb dX6_areOrders_14 rfl hl (by decide) rfl (fun ls hl => ?_)
    have loop15 : ∀ (m9 : Nat) (o9 : Nat) (e9 : Nat) (sq : Nat → Nat) (Y1 : Nat → Int32) (Y2 : Nat → Int32) (Y3 : Nat → Int32) (Hh : Heap) (_ : len ≤ e9 + m9) (_ : chn B len Y1 Y2 Y3 o9 sq) (_ : sq o9 = e9 + 1) (_ : fin B len e9) (_ : e9 ≤ len) (_ : 1 ≤ o9) (_ : MO D G μ R S N E P B Y1 Y2 Y3 sm kp th la (nI len) (nI e9) (nI o9) hs Hh) (locs : List Loc) (_ : va_S (A6 μ) s.heap Hh locs) (ls : Array Slot) (_ : lv_has ls 2 [(0, .ref (μ 0)), (1, .int 1)]), W p l e (headSpec wsX6_areOrders ({ frames := 5, cells := 0, slots := 0, locals := 110 } : Room)).room s m ([.ref (μ 0)] : List Value).toArray below meth c Hh locs 0 0 (MQ below (QI (A6 μ) (fun r h => (1 = r ∧ ∃ (o : Nat) (sq : Nat → Nat) (X1 X2 X3 : Nat → Int32) (sp2 : Int32), chn B len X1 X2 X3 o sq ∧ sq o = len + 1 ∧ (dfa B len = 16 ∨ dfa B len = 15) ∧ o ≤ 20 ∧ MO D G μ R S N E P B X1 X2 X3 sm kp th la (nI len) sp2 (nI o) hs h) ∨ (0 = r ∧ ∃ (p2 : Nat) (X1 X2 X3 : Nat → Int32) (od2 : Int32), bad B len p2 ∧ p2 ≤ len ∧ MO D G μ R S N E P B X1 X2 X3 sm kp th la (nI len) (nI p2) od2 hs h))) ([.ref (μ 0)] : List Value).toArray s 0 0 (A6 μ)) (F0 m 15 ls []) := by
      intro m9
      induction m9 with
      | zero =>
        intro o9 e9 sq Y1 Y2 Y3 Hh hin hc hs9 hf hle ho1 hM locs hS ls hl
        refine lv_iload_n hx hb dX6_areOrders_15 rfl (lv_at hl 1 rfl) ?_
        refine lv_if_eq (tgt := 38) hx hb dX6_areOrders_16 (by decide) (fun c1 => absurd c1 (by decide)) (fun c1 => ?_)
        refine lv_aload_n hx hb dX6_areOrders_19 rfl (lv_at hl 0 rfl) ?_
        refine lv_bipush (v := 59) hx hb dX6_areOrders_20 (by decide) ?_
        refine lv_bipush (v := 59) hx hb dX6_areOrders_22 (by decide) ?_
        refine dp_Vi hF hK hN (c_X6_takes l D G μ R S N E P B Y1 Y2 Y3 sm kp th la (nI len) (nI e9) (nI o9) hs e9 len 59 59 _ hμ hM rfl rfl hle hl6) (cwV 2 hts gX6_areOrders_X6_takes rfl rfl rfl (by decide +kernel) ⟨Nat.le_of_ble_eq_true rfl, Nat.le_of_ble_eq_true rfl⟩) (dp_recv hK hM.1 rfl) hS (fun q hq => hq) [] rfl rfl hl.1 (Nat.le_of_ble_eq_true rfl) dX6_areOrders_24 ⟨Nat.le_of_ble_eq_true rfl, Nat.le_of_ble_eq_true rfl⟩ (fun rH4 H4 locs hp hzH4 hkH4 hS => ?_)
        rcases hp with ⟨rfl, hq1, hM⟩ | ⟨rfl, hq1, hM⟩
        · exact absurd hq1.1 (by omega)
        · refine lv_if_eq (tgt := 38) hx hb dX6_areOrders_27 (by decide) (fun c2 => ?_) (fun c2 => absurd (by decide) c2)
          refine lv_iload_n hx hb dX6_areOrders_38 rfl (lv_at hl 1 rfl) ?_
          refine lv_if_eq (tgt := 57) hx hb dX6_areOrders_39 (by decide) (fun c3 => absurd c3 (by decide)) (fun c3 => ?_)
          refine lv_aload_n hx hb dX6_areOrders_42 rfl (lv_at hl 0 rfl) ?_
          refine dp_get hx hb hts (dp_hin 36 rfl) hown hK hM.1 rfl 11 (by decide) (hts (.fieldLink RX6 156 "DroopBoardModel" "spot" "I") (List.mem_of_getElem? (i := 1) rfl)) rfl dX6_areOrders_43 ?_
          refine lv_aload_n hx hb dX6_areOrders_46 rfl (lv_at hl 0 rfl) ?_
          refine dp_get hx hb hts (dp_hin 36 rfl) hown hK hM.1 rfl 10 (by decide) (hts (.fieldLink RX6 153 "DroopBoardModel" "length" "I") (List.mem_of_getElem? (i := 3) rfl)) rfl dX6_areOrders_47 ?_
          refine lv_icmp_ne (tgt := 57) hx hb dX6_areOrders_50 (by decide) (fun c4 => ?_) (fun c4 => ?_)
          · refine lv_iconst (v := 0) hx hb dX6_areOrders_57 (by decide) ?_
            have he9 : e9 < len := Nat.lt_of_le_of_ne hle (fun q => c4 (by rw [q]))
            exact W.zret (ty := .boolean) hx hb hr rfl (fun t ht hW => ⟨⟨0, H4, rfl, Or.inr ⟨rfl, e9, Y1, Y2, Y3, _, fin_n hf he9 (hq1.resolve_left (by omega)), hle, hM⟩, ht⟩, hS.F ht⟩) hS.2.2 dX6_areOrders_58
          refine lv_iconst (v := 1) hx hb dX6_areOrders_53 (by decide) ?_
          refine lv_goto (tgt := 58) hx hb dX6_areOrders_54 (by decide) ?_
          have he9 : e9 = len := (nI_eq (by omega) (by omega)).mp c4
          have h39 := chn_le hc o9 (Nat.le_refl _)
          exact W.zret (ty := .boolean) hx hb hr rfl (fun t ht hW => ⟨⟨1, H4, rfl, Or.inl ⟨rfl, o9, sq, Y1, Y2, Y3, _, hc, by rw [hs9, he9], by rw [← he9]; exact hf.imp id (fun q => q.1), by omega, hM⟩, ht⟩, hS.F ht⟩) hS.2.2 dX6_areOrders_58
      | succ m9 ih15 =>
        intro o9 e9 sq Y1 Y2 Y3 Hh hin hc hs9 hf hle ho1 hM locs hS ls hl
        refine lv_iload_n hx hb dX6_areOrders_15 rfl (lv_at hl 1 rfl) ?_
        refine lv_if_eq (tgt := 38) hx hb dX6_areOrders_16 (by decide) (fun c5 => absurd c5 (by decide)) (fun c5 => ?_)
        refine lv_aload_n hx hb dX6_areOrders_19 rfl (lv_at hl 0 rfl) ?_
        refine lv_bipush (v := 59) hx hb dX6_areOrders_20 (by decide) ?_
        refine lv_bipush (v := 59) hx hb dX6_areOrders_22 (by decide) ?_
        refine dp_Vi hF hK hN (c_X6_takes l D G μ R S N E P B Y1 Y2 Y3 sm kp th la (nI len) (nI e9) (nI o9) hs e9 len 59 59 _ hμ hM rfl rfl hle hl6) (cwV 2 hts gX6_areOrders_X6_takes rfl rfl rfl (by decide +kernel) ⟨Nat.le_of_ble_eq_true rfl, Nat.le_of_ble_eq_true rfl⟩) (dp_recv hK hM.1 rfl) hS (fun q hq => hq) [] rfl rfl hl.1 (Nat.le_of_ble_eq_true rfl) dX6_areOrders_24 ⟨Nat.le_of_ble_eq_true rfl, Nat.le_of_ble_eq_true rfl⟩ (fun rH5 H5 locs hp hzH5 hkH5 hS => ?_)
        rcases hp with ⟨rfl, hq1, hM⟩ | ⟨rfl, hq1, hM⟩
        · have hd1 : dfa B (e9 + 1) = 1 := fin_y hf (c_one hq1.2)
          refine lv_if_eq (tgt := 38) hx hb dX6_areOrders_27 (by decide) (fun c6 => absurd c6 (by decide)) (fun c6 => ?_)
          refine lv_aload_n hx hb dX6_areOrders_30 rfl (lv_at hl 0 rfl) ?_
          refine dp_Vi hF hK hN (c_X6_readOrder l D G μ R S N E P B Y1 Y2 Y3 sm kp th la (nI len) (nI (e9 + 1)) (nI o9) hs (e9 + 1) len o9 _ hμ hM rfl rfl hq1.1 hl6 rfl (by have h9 := chn_le hc o9 (Nat.le_refl _); have h8 := hq1.1; omega) hd1) (cwV 0 hts gX6_areOrders_X6_readOrder rfl rfl rfl (by decide +kernel) ⟨Nat.le_of_ble_eq_true rfl, Nat.le_of_ble_eq_true rfl⟩) (dp_recv hK hM.1 rfl) hS (fun q hq => hq) [] rfl rfl hl.1 (Nat.le_of_ble_eq_true rfl) dX6_areOrders_31 ⟨Nat.le_of_ble_eq_true rfl, Nat.le_of_ble_eq_true rfl⟩ (fun rH6 H6 locs hp hzH6 hkH6 hS => ?_)
          rcases hp with ⟨rfl, e8, X1, X2, X3, hOK, hfin, hag, hM⟩ | ⟨rfl, p2, X1, X2, X3, hbad, hp2, hM⟩
          · have hOK2 := hOK.1.2.1
            refine lv_istore_n (lv' := [(1, .int 1), (0, .ref (μ 0))]) hx hb dX6_areOrders_34 rfl hl (by decide) rfl (fun ls hl => ?_)
            refine lv_goto (tgt := 15) hx hb dX6_areOrders_35 (by decide) ?_
            exact ih15 (o9 + 1) e8 (ext sq o9 (e8 + 1)) X1 X2 X3 H6 (by have h9 := hOK.1.1; omega) (chn_add hc (by rw [hs9]; exact hOK) (fun _ => by rw [hs9, Nat.add_sub_cancel]; exact c_one hq1.2) hag).1 (chn_add hc (by rw [hs9]; exact hOK) (fun _ => by rw [hs9, Nat.add_sub_cancel]; exact c_one hq1.2) hag).2 hfin hOK2 (by omega) hM _ hS _ (lv_sub hl [1, 0] rfl)
          · refine lv_istore_n (lv' := [(1, .int 0), (0, .ref (μ 0))]) hx hb dX6_areOrders_34 rfl hl (by decide) rfl (fun ls hl => ?_)
            refine lv_goto (tgt := 15) hx hb dX6_areOrders_35 (by decide) ?_
            refine lv_iload_n hx hb dX6_areOrders_15 rfl (lv_at hl 0 rfl) ?_
            refine lv_if_eq (tgt := 38) hx hb dX6_areOrders_16 (by decide) (fun c7 => ?_) (fun c7 => absurd (by decide) c7)
            refine lv_iload_n hx hb dX6_areOrders_38 rfl (lv_at hl 0 rfl) ?_
            refine lv_if_eq (tgt := 57) hx hb dX6_areOrders_39 (by decide) (fun c8 => ?_) (fun c8 => absurd (by decide) c8)
            refine lv_iconst (v := 0) hx hb dX6_areOrders_57 (by decide) ?_
            exact W.zret (ty := .boolean) hx hb hr rfl (fun t ht hW => ⟨⟨0, H6, rfl, Or.inr ⟨rfl, p2, X1, X2, X3, _, hbad, hp2, hM⟩, ht⟩, hS.F ht⟩) hS.2.2 dX6_areOrders_58
        · refine lv_if_eq (tgt := 38) hx hb dX6_areOrders_27 (by decide) (fun c9 => ?_) (fun c9 => absurd (by decide) c9)
          refine lv_iload_n hx hb dX6_areOrders_38 rfl (lv_at hl 1 rfl) ?_
          refine lv_if_eq (tgt := 57) hx hb dX6_areOrders_39 (by decide) (fun c10 => absurd c10 (by decide)) (fun c10 => ?_)
          refine lv_aload_n hx hb dX6_areOrders_42 rfl (lv_at hl 0 rfl) ?_
          refine dp_get hx hb hts (dp_hin 36 rfl) hown hK hM.1 rfl 11 (by decide) (hts (.fieldLink RX6 156 "DroopBoardModel" "spot" "I") (List.mem_of_getElem? (i := 1) rfl)) rfl dX6_areOrders_43 ?_
          refine lv_aload_n hx hb dX6_areOrders_46 rfl (lv_at hl 0 rfl) ?_
          refine dp_get hx hb hts (dp_hin 36 rfl) hown hK hM.1 rfl 10 (by decide) (hts (.fieldLink RX6 153 "DroopBoardModel" "length" "I") (List.mem_of_getElem? (i := 3) rfl)) rfl dX6_areOrders_47 ?_
          refine lv_icmp_ne (tgt := 57) hx hb dX6_areOrders_50 (by decide) (fun c11 => ?_) (fun c11 => ?_)
          · refine lv_iconst (v := 0) hx hb dX6_areOrders_57 (by decide) ?_
            have he9 : e9 < len := Nat.lt_of_le_of_ne hle (fun q => c11 (by rw [q]))
            exact W.zret (ty := .boolean) hx hb hr rfl (fun t ht hW => ⟨⟨0, H5, rfl, Or.inr ⟨rfl, e9, Y1, Y2, Y3, _, fin_n hf he9 (hq1.resolve_left (by omega)), hle, hM⟩, ht⟩, hS.F ht⟩) hS.2.2 dX6_areOrders_58
          refine lv_iconst (v := 1) hx hb dX6_areOrders_53 (by decide) ?_
          refine lv_goto (tgt := 58) hx hb dX6_areOrders_54 (by decide) ?_
          have he9 : e9 = len := (nI_eq (by omega) (by omega)).mp c11
          have h39 := chn_le hc o9 (Nat.le_refl _)
          exact W.zret (ty := .boolean) hx hb hr rfl (fun t ht hW => ⟨⟨1, H5, rfl, Or.inl ⟨rfl, o9, sq, Y1, Y2, Y3, _, hc, by rw [hs9, he9], by rw [← he9]; exact hf.imp id (fun q => q.1), by omega, hM⟩, ht⟩, hS.F ht⟩) hS.2.2 dX6_areOrders_58
    exact loop15 len (0 + 1) e8 (ext (fun _ => 0) 0 (e8 + 1)) X1 X2 X3 H3 (by omega) (chn_add chn_0 hOK (fun z => by omega) hag).1 (chn_add chn_0 hOK (fun z => by omega) hag).2 hfin hOK2 (by omega) hM _ hS _ (lv_sub hl [1, 0] rfl)
  · refine lv_istore_n (lv' := [(1, .int 0), (0, .ref (μ 0))]) hx hb dX6_areOrders_14 rfl hl (by decide) rfl (fun ls hl => ?_)
    refine lv_iload_n hx hb dX6_areOrders_15 rfl (lv_at hl 0 rfl) ?_
    refine lv_if_eq (tgt := 38) hx hb dX6_areOrders_16 (by decide) (fun c12 => ?_) (fun c12 => absurd (by decide) c12)
    refine lv_iload_n hx hb dX6_areOrders_38 rfl (lv_at hl 0 rfl) ?_
    refine lv_if_eq (tgt := 57) hx hb dX6_areOrders_39 (by decide) (fun c13 => ?_) (fun c13 => absurd (by decide) c13)
    refine lv_iconst (v := 0) hx hb dX6_areOrders_57 (by decide) ?_
    exact W.zret (ty := .boolean) hx hb hr rfl (fun t ht hW => ⟨⟨0, H3, rfl, Or.inr ⟨rfl, p2, X1, X2, X3, _, hbad, hp2, hM⟩, ht⟩, hS.F ht⟩) hS.2.2 dX6_areOrders_58

set_option maxHeartbeats 600000 in
set_option maxRecDepth 100000 in
theorem c_X6_firstError (l : Launch) (D : va_G) (G : Nat → ClassId) (μ : Nat → Nat) (R S N E P B L1 L2 L3 : Nat → Int32) (sm kp th la ln sp od : Int32) (hs : Int64) (len : Nat) (H : Heap) (hμ : inj 10 μ) (hM : MO D G μ R S N E P B L1 L2 L3 sm kp th la ln sp od hs H) (hln : ln = nI len) (hl6 : len ≤ 60) : Met l yX6_firstError wsX6_firstError ({ frames := 6, cells := 0, slots := 0, locals := 131 } : Room) (va_Pc [.ref (μ 0)] (CX D G H)) (QI (A6 μ) (fun r h => nI (fwr B 0 len) = r ∧ ∃ (X1 X2 X3 : Nat → Int32) (sp2 od2 : Int32), MO D G μ R S N E P B X1 X2 X3 sm kp 0 la (nI len) sp2 od2 hs h)) 0 0 (A6 μ) := by
  refine Met.ofW (cc := cX6_firstError) (maxL := 1) (ret := (some .int)) (by decide) rfl ?_
  intro p e s m args below meth c s₁ B0 hml hv
  obtain ⟨rfl, rfl, hK, hN⟩ := hv
  have hx := B0.exec
  have hb := B0.bytes
  have hr := B0.returns
  have hts := atoms_spec (ws := wsX6_firstError) B0.pre
  have hown : s.vm.findClass RX6 = some m.cls := findClass_of_methodNamed B0.named
  have hlocks := B0.notSynchronized
  have hF : CallFix p m c cX6_firstError 1 s ([.ref (μ 0)] : List Value).toArray wsX6_firstError RX6 := ⟨hx, hb, hml, hown, hts⟩
  have hS : va_S (A6 μ) s.heap s.heap [] := va_S.rf
  have hl := lv_entry ([.ref (μ 0)]) (n := 1) (Nat.le_of_ble_eq_true rfl)
  rw [lg_entry_eq]
  generalize (lg_sl ([.ref (μ 0)]) ++ List.replicate (1 - (lg_sl ([.ref (μ 0)])).length) Slot.unset).toArray = ls at hl ⊢
  have hl : lv_has ls 1 [(0, .ref (μ 0))] := hl
  refine lv_aload_n hx hb dX6_firstError_0 rfl (lv_at hl 0 rfl) ?_
  refine lv_iconst (v := 0) hx hb dX6_firstError_1 (by decide) ?_
  refine dp_put (A := A6 μ) (v := .int 0) hx hb hts (dp_hin 41 rfl) tyX6 tyX6_ok nmX6 hown hK hM.1 (⟨0, by decide, rfl⟩ : A6 μ (μ 0)) hS rfl 6 (by decide) (hts (.fieldLink RX6 41 "DroopBoardModel" "thrown" "I") (List.mem_of_getElem? (i := 1) rfl)) rfl rfl rfl (Nat.le_of_ble_eq_true rfl) dX6_firstError_2 (fun H1 locs hH1 hzH1 hkH1 hS => ?_)
  have hM := hM.o (sm' := sm) (kp' := kp) (th' := 0) (la' := la) (ln' := ln) (sp' := sp) (od' := od) (hs' := hs) hμ hH1 hkH1
  refine lv_aload_n hx hb dX6_firstError_5 rfl (lv_at hl 0 rfl) ?_
  refine dp_Vi hF hK hN (c_X6_areOrders l D G μ R S N E P B L1 L2 L3 sm kp 0 la ln sp od hs len _ hμ hM hln hl6) (cwV 0 hts gX6_firstError_X6_areOrders rfl rfl rfl (by decide +kernel) ⟨Nat.le_of_ble_eq_true rfl, Nat.le_of_ble_eq_true rfl⟩) (dp_recv hK hM.1 rfl) hS (fun q hq => hq) [] rfl rfl hl.1 (Nat.le_of_ble_eq_true rfl) dX6_firstError_6 ⟨Nat.le_of_ble_eq_true rfl, Nat.le_of_ble_eq_true rfl⟩ (fun rH2 H2 locs hp hzH2 hkH2 hS => ?_)
  rcases hp with ⟨rfl, o, sq, X1, X2, X3, sp2, hc, hso, hend, ho20, hM⟩ | ⟨rfl, p2, X1, X2, X3, od2, hbad, hp2, hM⟩
  · refine lv_if_eq (tgt := 19) hx hb dX6_firstError_9 (by decide) (fun c1 => absurd c1 (by decide)) (fun c1 => ?_)
    refine lv_aload_n hx hb dX6_firstError_12 rfl (lv_at hl 0 rfl) ?_
    refine dp_get hx hb hts (dp_hin 41 rfl) hown hK hM.1 rfl 10 (by decide) (hts (.fieldLink RX6 153 "DroopBoardModel" "length" "I") (List.mem_of_getElem? (i := 2) rfl)) rfl dX6_firstError_13 ?_
    refine lv_goto (tgt := 23) hx hb dX6_firstError_16 (by decide) ?_
    exact W.iret hx hb hr (fun t ht hW => ⟨⟨nI len, H2, rfl, ⟨by rw [(end_fwr hend).1], _, _, _, _, _, hM⟩, ht⟩, hS.F ht⟩) hS.2.2 dX6_firstError_23
  · refine lv_if_eq (tgt := 19) hx hb dX6_firstError_9 (by decide) (fun c2 => ?_) (fun c2 => absurd (by decide) c2)
    refine lv_aload_n hx hb dX6_firstError_19 rfl (lv_at hl 0 rfl) ?_
    refine dp_get hx hb hts (dp_hin 41 rfl) hown hK hM.1 rfl 11 (by decide) (hts (.fieldLink RX6 156 "DroopBoardModel" "spot" "I") (List.mem_of_getElem? (i := 3) rfl)) rfl dX6_firstError_20 ?_
    exact W.iret hx hb hr (fun t ht hW => ⟨⟨nI p2, H2, rfl, ⟨by rw [(bad_fwr hbad).1], _, _, _, _, _, hM⟩, ht⟩, hS.F ht⟩) hS.2.2 dX6_firstError_23
