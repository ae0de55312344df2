set_option maxHeartbeats 600000 in
set_option maxRecDepth 100000 in
theorem c_X6_ofDiesel (l : Launch) (D : va_G) (G : Nat → ClassId) (μ : Nat → Nat) (R S N E P B L1 L2 L3 : Nat → Int32) (sm kp th la ln sp od : Int32) (hs : Int64) (j : Nat) (q : Int32) (H : Heap) (hμ : inj 10 μ) (hM : MO D G μ R S N E P B L1 L2 L3 sm kp th la ln sp od hs H) (hwz : wz R) (hj : j < 3) (hq : q = 0 ∨ q = 1 ∨ q = 2 ∨ q = 3 ∨ q = 4 ∨ q = 5 ∨ q = 6 ∨ q = 7 ∨ q = 8 ∨ q = 9 ∨ q = 10 ∨ q = 11 ∨ q = 12) : Met l yX6_ofDiesel wsX6_ofDiesel ({ frames := 7, cells := 0, slots := 0, locals := 152 } : Room) (va_Pc [.ref (μ 0), .int (nI j), .int q] (CX D G H)) (QI (A6 μ) (fun r h => tset R j q = r ∧ MP D G μ R S N E B L1 L2 L3 sm kp th ln sp od hs h)) 0 0 (A6 μ) := by
  refine Met.ofW (cc := cX6_ofDiesel) (maxL := 3) (ret := (some .int)) (by decide) rfl ?_
  intro p e s m args below meth c s₁ B0 hml hv
  obtain ⟨rfl, rfl, hK, hN⟩ := hv
  have hx := B0.exec
  have hb := B0.bytes
  have hr := B0.returns
  have hts := atoms_spec (ws := wsX6_ofDiesel) B0.pre
  have hown : s.vm.findClass RX6 = some m.cls := findClass_of_methodNamed B0.named
  have hlocks := B0.notSynchronized
  have hF : CallFix p m c cX6_ofDiesel 3 s ([.ref (μ 0), .int (nI j), .int q] : List Value).toArray wsX6_ofDiesel RX6 := ⟨hx, hb, hml, hown, hts⟩
  have hS : va_S (A6 μ) s.heap s.heap [] := va_S.rf
  have hl := lv_entry ([.ref (μ 0), .int (nI j), .int q]) (n := 3) (Nat.le_of_ble_eq_true rfl)
  rw [lg_entry_eq]
  generalize (lg_sl ([.ref (μ 0), .int (nI j), .int q]) ++ List.replicate (3 - (lg_sl ([.ref (μ 0), .int (nI j), .int q])).length) Slot.unset).toArray = ls at hl ⊢
  have hl : lv_has ls 3 [(0, .ref (μ 0)), (1, .int (nI j)), (2, .int q)] := hl
  rcases hq with rfl | rfl | rfl | rfl | rfl | rfl | rfl | rfl | rfl | rfl | rfl | rfl | rfl
  · refine lv_iload_n hx hb dX6_ofDiesel_0 rfl (lv_at hl 2 rfl) ?_
    refine lv_tableOut (tgt := 109) hx hb dX6_ofDiesel_1 (by decide) (by decide) ?_
    refine lv_aload_n hx hb dX6_ofDiesel_109 rfl (lv_at hl 0 rfl) ?_
    refine lv_iload_n hx hb dX6_ofDiesel_110 rfl (lv_at hl 1 rfl) ?_
    refine lv_iload_n hx hb dX6_ofDiesel_111 rfl (lv_at hl 2 rfl) ?_
    refine dp_Vi hF hK hN (c_X6_of l D G μ R S N E P B L1 L2 L3 sm kp th la ln sp od hs j 0 8 _ hμ hM (by omega) (by decide) rfl) (cwV 2 hts gX6_ofDiesel_X6_of rfl rfl rfl (by decide +kernel) ⟨Nat.le_of_ble_eq_true rfl, Nat.le_of_ble_eq_true rfl⟩) (dp_recv hK hM.1 rfl) hS nA_i [] rfl rfl hl.1 (Nat.le_of_ble_eq_true rfl) dX6_ofDiesel_112 ⟨Nat.le_of_ble_eq_true rfl, Nat.le_of_ble_eq_true rfl⟩ (fun rH1 H1 locs hp hzH1 hkH1 hS => ?_)
    obtain ⟨rfl, rfl⟩ := hp
    exact W.iret hx hb hr (fun t ht hW => ⟨⟨R (8 + 10 * j), s.heap, rfl, ⟨by simp [tset], _, _, hM⟩, ht⟩, hS.F ht⟩) hS.2.2 dX6_ofDiesel_115
  · refine lv_iload_n hx hb dX6_ofDiesel_0 rfl (lv_at hl 2 rfl) ?_
    refine lv_tableOut (tgt := 109) hx hb dX6_ofDiesel_1 (by decide) (by decide) ?_
    refine lv_aload_n hx hb dX6_ofDiesel_109 rfl (lv_at hl 0 rfl) ?_
    refine lv_iload_n hx hb dX6_ofDiesel_110 rfl (lv_at hl 1 rfl) ?_
    refine lv_iload_n hx hb dX6_ofDiesel_111 rfl (lv_at hl 2 rfl) ?_
    refine dp_Vi hF hK hN (c_X6_of l D G μ R S N E P B L1 L2 L3 sm kp th la ln sp od hs j 1 9 _ hμ hM (by omega) (by decide) rfl) (cwV 2 hts gX6_ofDiesel_X6_of rfl rfl rfl (by decide +kernel) ⟨Nat.le_of_ble_eq_true rfl, Nat.le_of_ble_eq_true rfl⟩) (dp_recv hK hM.1 rfl) hS nA_i [] rfl rfl hl.1 (Nat.le_of_ble_eq_true rfl) dX6_ofDiesel_112 ⟨Nat.le_of_ble_eq_true rfl, Nat.le_of_ble_eq_true rfl⟩ (fun rH2 H2 locs hp hzH2 hkH2 hS => ?_)
    obtain ⟨rfl, rfl⟩ := hp
    exact W.iret hx hb hr (fun t ht hW => ⟨⟨R (9 + 10 * j), s.heap, rfl, ⟨by simp [tset], _, _, hM⟩, ht⟩, hS.F ht⟩) hS.2.2 dX6_ofDiesel_115
  · refine lv_iload_n hx hb dX6_ofDiesel_0 rfl (lv_at hl 2 rfl) ?_
    refine lv_tableOut (tgt := 109) hx hb dX6_ofDiesel_1 (by decide) (by decide) ?_
    refine lv_aload_n hx hb dX6_ofDiesel_109 rfl (lv_at hl 0 rfl) ?_
    refine lv_iload_n hx hb dX6_ofDiesel_110 rfl (lv_at hl 1 rfl) ?_
    refine lv_iload_n hx hb dX6_ofDiesel_111 rfl (lv_at hl 2 rfl) ?_
    refine dp_Vi hF hK hN (c_X6_of l D G μ R S N E P B L1 L2 L3 sm kp th la ln sp od hs j 2 10 _ hμ hM (by omega) (by decide) rfl) (cwV 2 hts gX6_ofDiesel_X6_of rfl rfl rfl (by decide +kernel) ⟨Nat.le_of_ble_eq_true rfl, Nat.le_of_ble_eq_true rfl⟩) (dp_recv hK hM.1 rfl) hS nA_i [] rfl rfl hl.1 (Nat.le_of_ble_eq_true rfl) dX6_ofDiesel_112 ⟨Nat.le_of_ble_eq_true rfl, Nat.le_of_ble_eq_true rfl⟩ (fun rH3 H3 locs hp hzH3 hkH3 hS => ?_)
    obtain ⟨rfl, rfl⟩ := hp
    exact W.iret hx hb hr (fun t ht hW => ⟨⟨R (10 + 10 * j), s.heap, rfl, ⟨by simp [tset], _, _, hM⟩, ht⟩, hS.F ht⟩) hS.2.2 dX6_ofDiesel_115
  · refine lv_iload_n hx hb dX6_ofDiesel_0 rfl (lv_at hl 2 rfl) ?_
    refine lv_tableOut (tgt := 109) hx hb dX6_ofDiesel_1 (by decide) (by decide) ?_
    refine lv_aload_n hx hb dX6_ofDiesel_109 rfl (lv_at hl 0 rfl) ?_
    refine lv_iload_n hx hb dX6_ofDiesel_110 rfl (lv_at hl 1 rfl) ?_
    refine lv_iload_n hx hb dX6_ofDiesel_111 rfl (lv_at hl 2 rfl) ?_
    refine dp_Vi hF hK hN (c_X6_of l D G μ R S N E P B L1 L2 L3 sm kp th la ln sp od hs j 3 11 _ hμ hM (by omega) (by decide) rfl) (cwV 2 hts gX6_ofDiesel_X6_of rfl rfl rfl (by decide +kernel) ⟨Nat.le_of_ble_eq_true rfl, Nat.le_of_ble_eq_true rfl⟩) (dp_recv hK hM.1 rfl) hS nA_i [] rfl rfl hl.1 (Nat.le_of_ble_eq_true rfl) dX6_ofDiesel_112 ⟨Nat.le_of_ble_eq_true rfl, Nat.le_of_ble_eq_true rfl⟩ (fun rH4 H4 locs hp hzH4 hkH4 hS => ?_)
    obtain ⟨rfl, rfl⟩ := hp
    exact W.iret hx hb hr (fun t ht hW => ⟨⟨R (11 + 10 * j), s.heap, rfl, ⟨by have h9 := (hwz.1.1 j hj).1; rcases h9 with e9 | e9 <;> simp [tset, e9], _, _, hM⟩, ht⟩, hS.F ht⟩) hS.2.2 dX6_ofDiesel_115
  · refine lv_iload_n hx hb dX6_ofDiesel_0 rfl (lv_at hl 2 rfl) ?_
    refine lv_tableOut (tgt := 109) hx hb dX6_ofDiesel_1 (by decide) (by decide) ?_
    refine lv_aload_n hx hb dX6_ofDiesel_109 rfl (lv_at hl 0 rfl) ?_
    refine lv_iload_n hx hb dX6_ofDiesel_110 rfl (lv_at hl 1 rfl) ?_
    refine lv_iload_n hx hb dX6_ofDiesel_111 rfl (lv_at hl 2 rfl) ?_
    refine dp_Vi hF hK hN (c_X6_of l D G μ R S N E P B L1 L2 L3 sm kp th la ln sp od hs j 4 12 _ hμ hM (by omega) (by decide) rfl) (cwV 2 hts gX6_ofDiesel_X6_of rfl rfl rfl (by decide +kernel) ⟨Nat.le_of_ble_eq_true rfl, Nat.le_of_ble_eq_true rfl⟩) (dp_recv hK hM.1 rfl) hS nA_i [] rfl rfl hl.1 (Nat.le_of_ble_eq_true rfl) dX6_ofDiesel_112 ⟨Nat.le_of_ble_eq_true rfl, Nat.le_of_ble_eq_true rfl⟩ (fun rH5 H5 locs hp hzH5 hkH5 hS => ?_)
    obtain ⟨rfl, rfl⟩ := hp
    exact W.iret hx hb hr (fun t ht hW => ⟨⟨R (12 + 10 * j), s.heap, rfl, ⟨by have h9 := (hwz.1.1 j hj).2; rcases h9 with e9 | e9 <;> simp [tset, e9], _, _, hM⟩, ht⟩, hS.F ht⟩) hS.2.2 dX6_ofDiesel_115
  · refine lv_iload_n hx hb dX6_ofDiesel_0 rfl (lv_at hl 2 rfl) ?_
    refine lv_tableIn (off := 47) (tgt := 48) hx hb dX6_ofDiesel_1 (by decide) (by decide) (by rfl) (by decide) ?_
    refine lv_aload_n hx hb dX6_ofDiesel_48 rfl (lv_at hl 0 rfl) ?_
    refine lv_iload_n hx hb dX6_ofDiesel_49 rfl (lv_at hl 1 rfl) ?_
    refine dp_Vi hF hK hN (c_X6_power l D G μ R S N E P B L1 L2 L3 sm kp th la ln sp od hs j _ hμ hM hwz (by omega)) (cwV 1 hts gX6_ofDiesel_X6_power rfl rfl rfl (by decide +kernel) ⟨Nat.le_of_ble_eq_true rfl, Nat.le_of_ble_eq_true rfl⟩) (dp_recv hK hM.1 rfl) hS (fun q hq => hq) [] rfl rfl hl.1 (Nat.le_of_ble_eq_true rfl) dX6_ofDiesel_50 ⟨Nat.le_of_ble_eq_true rfl, Nat.le_of_ble_eq_true rfl⟩ (fun rH6 H6 locs hp hzH6 hkH6 hS => ?_)
    obtain ⟨rfl, P, la, hM⟩ := hp
    exact W.iret hx hb hr (fun t ht hW => ⟨⟨pw R j (fq R), H6, rfl, ⟨by simp [tset], _, _, hM⟩, ht⟩, hS.F ht⟩) hS.2.2 dX6_ofDiesel_53
  · refine lv_iload_n hx hb dX6_ofDiesel_0 rfl (lv_at hl 2 rfl) ?_
    refine lv_tableIn (off := 53) (tgt := 54) hx hb dX6_ofDiesel_1 (by decide) (by decide) (by rfl) (by decide) ?_
    refine lv_aload_n hx hb dX6_ofDiesel_54 rfl (lv_at hl 0 rfl) ?_
    refine lv_iload_n hx hb dX6_ofDiesel_55 rfl (lv_at hl 1 rfl) ?_
    refine lv_iconst (v := 5) hx hb dX6_ofDiesel_56 (by decide) ?_
    refine dp_Vi hF hK hN (c_X6_of l D G μ R S N E P B L1 L2 L3 sm kp th la ln sp od hs j 5 13 _ hμ hM (by omega) (by decide) rfl) (cwV 2 hts gX6_ofDiesel_X6_of rfl rfl rfl (by decide +kernel) ⟨Nat.le_of_ble_eq_true rfl, Nat.le_of_ble_eq_true rfl⟩) (dp_recv hK hM.1 rfl) hS nA_i [] rfl rfl hl.1 (Nat.le_of_ble_eq_true rfl) dX6_ofDiesel_57 ⟨Nat.le_of_ble_eq_true rfl, Nat.le_of_ble_eq_true rfl⟩ (fun rH7 H7 locs hp hzH7 hkH7 hS => ?_)
    obtain ⟨rfl, rfl⟩ := hp
    exact W.iret hx hb hr (fun t ht hW => ⟨⟨R (13 + 10 * j), s.heap, rfl, ⟨by simp [tset], _, _, hM⟩, ht⟩, hS.F ht⟩) hS.2.2 dX6_ofDiesel_60
  · refine lv_iload_n hx hb dX6_ofDiesel_0 rfl (lv_at hl 2 rfl) ?_
    refine lv_tableIn (off := 60) (tgt := 61) hx hb dX6_ofDiesel_1 (by decide) (by decide) (by rfl) (by decide) ?_
    refine lv_aload_n hx hb dX6_ofDiesel_61 rfl (lv_at hl 0 rfl) ?_
    refine lv_iload_n hx hb dX6_ofDiesel_62 rfl (lv_at hl 1 rfl) ?_
    refine lv_iconst (v := 5) hx hb dX6_ofDiesel_63 (by decide) ?_
    refine dp_Vi hF hK hN (c_X6_of l D G μ R S N E P B L1 L2 L3 sm kp th la ln sp od hs j 5 13 _ hμ hM (by omega) (by decide) rfl) (cwV 2 hts gX6_ofDiesel_X6_of rfl rfl rfl (by decide +kernel) ⟨Nat.le_of_ble_eq_true rfl, Nat.le_of_ble_eq_true rfl⟩) (dp_recv hK hM.1 rfl) hS nA_i [] rfl rfl hl.1 (Nat.le_of_ble_eq_true rfl) dX6_ofDiesel_64 ⟨Nat.le_of_ble_eq_true rfl, Nat.le_of_ble_eq_true rfl⟩ (fun rH8 H8 locs hp hzH8 hkH8 hS => ?_)
    obtain ⟨rfl, rfl⟩ := hp
    refine dp_Si hF hK hN (c_X6_lamps l D G (R (13 + 10 * j)) _) (va_cwS 1 hts gX6_ofDiesel_X6_lamps rfl rfl rfl (by decide +kernel) ⟨Nat.le_of_ble_eq_true rfl, Nat.le_of_ble_eq_true rfl⟩) hS nA_i [] rfl rfl hl.1 (Nat.le_of_ble_eq_true rfl) dX6_ofDiesel_67 ⟨Nat.le_of_ble_eq_true rfl, Nat.le_of_ble_eq_true rfl⟩ (fun rH9 H9 locs hp hzH9 hkH9 hS => ?_)
    obtain ⟨rfl, rfl⟩ := hp
    exact W.iret hx hb hr (fun t ht hW => ⟨⟨lam (R (13 + 10 * j)), s.heap, rfl, ⟨by simp [tset], _, _, hM⟩, ht⟩, hS.F ht⟩) hS.2.2 dX6_ofDiesel_70
  · refine lv_iload_n hx hb dX6_ofDiesel_0 rfl (lv_at hl 2 rfl) ?_
    refine lv_tableIn (off := 70) (tgt := 71) hx hb dX6_ofDiesel_1 (by decide) (by decide) (by rfl) (by decide) ?_
    refine lv_aload_n hx hb dX6_ofDiesel_71 rfl (lv_at hl 0 rfl) ?_
    refine lv_iload_n hx hb dX6_ofDiesel_72 rfl (lv_at hl 1 rfl) ?_
    refine lv_bipush (v := 6) hx hb dX6_ofDiesel_73 (by decide) ?_
    refine dp_Vi hF hK hN (c_X6_of l D G μ R S N E P B L1 L2 L3 sm kp th la ln sp od hs j 6 14 _ hμ hM (by omega) (by decide) rfl) (cwV 2 hts gX6_ofDiesel_X6_of rfl rfl rfl (by decide +kernel) ⟨Nat.le_of_ble_eq_true rfl, Nat.le_of_ble_eq_true rfl⟩) (dp_recv hK hM.1 rfl) hS nA_i [] rfl rfl hl.1 (Nat.le_of_ble_eq_true rfl) dX6_ofDiesel_75 ⟨Nat.le_of_ble_eq_true rfl, Nat.le_of_ble_eq_true rfl⟩ (fun rH10 H10 locs hp hzH10 hkH10 hS => ?_)
    obtain ⟨rfl, rfl⟩ := hp
    exact W.iret hx hb hr (fun t ht hW => ⟨⟨R (14 + 10 * j), s.heap, rfl, ⟨by simp [tset], _, _, hM⟩, ht⟩, hS.F ht⟩) hS.2.2 dX6_ofDiesel_78
  · refine lv_iload_n hx hb dX6_ofDiesel_0 rfl (lv_at hl 2 rfl) ?_
    refine lv_tableIn (off := 78) (tgt := 79) hx hb dX6_ofDiesel_1 (by decide) (by decide) (by rfl) (by decide) ?_
    refine lv_aload_n hx hb dX6_ofDiesel_79 rfl (lv_at hl 0 rfl) ?_
    refine lv_iload_n hx hb dX6_ofDiesel_80 rfl (lv_at hl 1 rfl) ?_
    refine lv_bipush (v := 7) hx hb dX6_ofDiesel_81 (by decide) ?_
    refine dp_Vi hF hK hN (c_X6_of l D G μ R S N E P B L1 L2 L3 sm kp th la ln sp od hs j 7 15 _ hμ hM (by omega) (by decide) rfl) (cwV 2 hts gX6_ofDiesel_X6_of rfl rfl rfl (by decide +kernel) ⟨Nat.le_of_ble_eq_true rfl, Nat.le_of_ble_eq_true rfl⟩) (dp_recv hK hM.1 rfl) hS nA_i [] rfl rfl hl.1 (Nat.le_of_ble_eq_true rfl) dX6_ofDiesel_83 ⟨Nat.le_of_ble_eq_true rfl, Nat.le_of_ble_eq_true rfl⟩ (fun rH11 H11 locs hp hzH11 hkH11 hS => ?_)
    obtain ⟨rfl, rfl⟩ := hp
    exact W.iret hx hb hr (fun t ht hW => ⟨⟨R (15 + 10 * j), s.heap, rfl, ⟨by simp [tset], _, _, hM⟩, ht⟩, hS.F ht⟩) hS.2.2 dX6_ofDiesel_86
  · refine lv_iload_n hx hb dX6_ofDiesel_0 rfl (lv_at hl 2 rfl) ?_
    refine lv_tableIn (off := 86) (tgt := 87) hx hb dX6_ofDiesel_1 (by decide) (by decide) (by rfl) (by decide) ?_
    refine lv_aload_n hx hb dX6_ofDiesel_87 rfl (lv_at hl 0 rfl) ?_
    refine lv_iload_n hx hb dX6_ofDiesel_88 rfl (lv_at hl 1 rfl) ?_
    refine lv_bipush (v := 8) hx hb dX6_ofDiesel_89 (by decide) ?_
    refine dp_Vi hF hK hN (c_X6_of l D G μ R S N E P B L1 L2 L3 sm kp th la ln sp od hs j 8 16 _ hμ hM (by omega) (by decide) rfl) (cwV 2 hts gX6_ofDiesel_X6_of rfl rfl rfl (by decide +kernel) ⟨Nat.le_of_ble_eq_true rfl, Nat.le_of_ble_eq_true rfl⟩) (dp_recv hK hM.1 rfl) hS nA_i [] rfl rfl hl.1 (Nat.le_of_ble_eq_true rfl) dX6_ofDiesel_91 ⟨Nat.le_of_ble_eq_true rfl, Nat.le_of_ble_eq_true rfl⟩ (fun rH12 H12 locs hp hzH12 hkH12 hS => ?_)
    obtain ⟨rfl, rfl⟩ := hp
    exact W.iret hx hb hr (fun t ht hW => ⟨⟨R (16 + 10 * j), s.heap, rfl, ⟨by simp [tset], _, _, hM⟩, ht⟩, hS.F ht⟩) hS.2.2 dX6_ofDiesel_94
  · refine lv_iload_n hx hb dX6_ofDiesel_0 rfl (lv_at hl 2 rfl) ?_
    refine lv_tableIn (off := 94) (tgt := 95) hx hb dX6_ofDiesel_1 (by decide) (by decide) (by rfl) (by decide) ?_
    refine lv_aload_n hx hb dX6_ofDiesel_95 rfl (lv_at hl 0 rfl) ?_
    refine lv_iload_n hx hb dX6_ofDiesel_96 rfl (lv_at hl 1 rfl) ?_
    refine lv_bipush (v := 9) hx hb dX6_ofDiesel_97 (by decide) ?_
    refine dp_Vi hF hK hN (c_X6_of l D G μ R S N E P B L1 L2 L3 sm kp th la ln sp od hs j 9 17 _ hμ hM (by omega) (by decide) rfl) (cwV 2 hts gX6_ofDiesel_X6_of rfl rfl rfl (by decide +kernel) ⟨Nat.le_of_ble_eq_true rfl, Nat.le_of_ble_eq_true rfl⟩) (dp_recv hK hM.1 rfl) hS nA_i [] rfl rfl hl.1 (Nat.le_of_ble_eq_true rfl) dX6_ofDiesel_99 ⟨Nat.le_of_ble_eq_true rfl, Nat.le_of_ble_eq_true rfl⟩ (fun rH13 H13 locs hp hzH13 hkH13 hS => ?_)
    obtain ⟨rfl, rfl⟩ := hp
    exact W.iret hx hb hr (fun t ht hW => ⟨⟨R (17 + 10 * j), s.heap, rfl, ⟨by simp [tset], _, _, hM⟩, ht⟩, hS.F ht⟩) hS.2.2 dX6_ofDiesel_102
  · refine lv_iload_n hx hb dX6_ofDiesel_0 rfl (lv_at hl 2 rfl) ?_
    refine lv_tableIn (off := 102) (tgt := 103) hx hb dX6_ofDiesel_1 (by decide) (by decide) (by rfl) (by decide) ?_
    refine lv_aload_n hx hb dX6_ofDiesel_103 rfl (lv_at hl 0 rfl) ?_
    refine lv_iload_n hx hb dX6_ofDiesel_104 rfl (lv_at hl 1 rfl) ?_
    refine dp_Vi hF hK hN (c_X6_reason l D G μ R S N E P B L1 L2 L3 sm kp th la ln sp od hs j _ hμ hM hwz (by omega)) (cwV 1 hts gX6_ofDiesel_X6_reason rfl rfl rfl (by decide +kernel) ⟨Nat.le_of_ble_eq_true rfl, Nat.le_of_ble_eq_true rfl⟩) (dp_recv hK hM.1 rfl) hS nA_i [] rfl rfl hl.1 (Nat.le_of_ble_eq_true rfl) dX6_ofDiesel_105 ⟨Nat.le_of_ble_eq_true rfl, Nat.le_of_ble_eq_true rfl⟩ (fun rH14 H14 locs hp hzH14 hkH14 hS => ?_)
    obtain ⟨rfl, rfl⟩ := hp
    exact W.iret hx hb hr (fun t ht hW => ⟨⟨rsn R j, s.heap, rfl, ⟨by simp [tset], _, _, hM⟩, ht⟩, hS.F ht⟩) hS.2.2 dX6_ofDiesel_108

set_option maxHeartbeats 600000 in
set_option maxRecDepth 100000 in
theorem c_X6_number (l : Launch) (D : va_G) (G : Nat → ClassId) (μ : Nat → Nat) (R S N E P B L1 L2 L3 : Nat → Int32) (sm kp th la ln sp od : Int32) (hs : Int64) (n : Nat) (q : Int32) (H : Heap) (hμ : inj 10 μ) (hM : MO D G μ R S N E P B L1 L2 L3 sm kp th la ln sp od hs H) (hwz : wz R) (h5 : R 5 = wsum R 17 10 3) (h6 : R 6 = wsum R 40 3 4) (hsm : sm = nI n) (hq : q = 0 ∨ q = 1 ∨ q = 2 ∨ q = 3 ∨ q = 4 ∨ q = 5 ∨ q = 6 ∨ q = 7 ∨ q = 8 ∨ q = 9 ∨ q = 10 ∨ q = 11) : Met l yX6_number wsX6_number ({ frames := 7, cells := 0, slots := 0, locals := 151 } : Room) (va_Pc [.ref (μ 0), .int q] (CX D G H)) (QI (A6 μ) (fun r h => tcnt R n q = r ∧ MP D G μ R S N E B L1 L2 L3 sm kp th ln sp od hs h)) 0 0 (A6 μ) := by
  refine Met.ofW (cc := cX6_number) (maxL := 2) (ret := (some .int)) (by decide) rfl ?_
  intro p e s m args below meth c s₁ B0 hml hv
  obtain ⟨rfl, rfl, hK, hN⟩ := hv
  have hx := B0.exec
  have hb := B0.bytes
  have hr := B0.returns
  have hts := atoms_spec (ws := wsX6_number) B0.pre
  have hown : s.vm.findClass RX6 = some m.cls := findClass_of_methodNamed B0.named
  have hlocks := B0.notSynchronized
  have hF : CallFix p m c cX6_number 2 s ([.ref (μ 0), .int q] : List Value).toArray wsX6_number RX6 := ⟨hx, hb, hml, hown, hts⟩
  have hS : va_S (A6 μ) s.heap s.heap [] := va_S.rf
  have hl := lv_entry ([.ref (μ 0), .int q]) (n := 2) (Nat.le_of_ble_eq_true rfl)
  rw [lg_entry_eq]
  generalize (lg_sl ([.ref (μ 0), .int q]) ++ List.replicate (2 - (lg_sl ([.ref (μ 0), .int q])).length) Slot.unset).toArray = ls at hl ⊢
  have hl : lv_has ls 2 [(0, .ref (μ 0)), (1, .int q)] := hl
  rcases hq with rfl | rfl | rfl | rfl | rfl | rfl | rfl | rfl | rfl | rfl | rfl | rfl
  · refine lv_iload_n hx hb dX6_number_0 rfl (lv_at hl 1 rfl) ?_
    refine lv_tableIn (off := 59) (tgt := 60) hx hb dX6_number_1 (by decide) (by decide) (by rfl) (by decide) ?_
    refine lv_aload_n hx hb dX6_number_60 rfl (lv_at hl 0 rfl) ?_
    refine dp_get hx hb hts (dp_hin 50 rfl) hown hK hM.1 rfl 0 (by decide) (hts (.fieldLink RX6 7 "DroopBoardModel" "row" "[I") (List.mem_of_getElem? (i := 1) rfl)) rfl dX6_number_61 ?_
    refine lv_iconst (v := 4) hx hb dX6_number_64 (by decide) ?_
    refine dp_iald hx hb hK hM.2.1 0 rfl 4 rfl (by decide) (by decide) dX6_number_65 ?_
    exact W.iret hx hb hr (fun t ht hW => ⟨⟨R 4, s.heap, rfl, ⟨by simp [tcnt], _, _, hM⟩, ht⟩, hS.F ht⟩) hS.2.2 dX6_number_66
  · refine lv_iload_n hx hb dX6_number_0 rfl (lv_at hl 1 rfl) ?_
    refine lv_tableIn (off := 66) (tgt := 67) hx hb dX6_number_1 (by decide) (by decide) (by rfl) (by decide) ?_
    refine lv_aload_n hx hb dX6_number_67 rfl (lv_at hl 0 rfl) ?_
    refine dp_Vi hF hK hN (c_X6_frequency l D G μ R S N E P B L1 L2 L3 sm kp th la ln sp od hs  _ hμ hM hwz) (cwV 0 hts gX6_number_X6_frequency rfl rfl rfl (by decide +kernel) ⟨Nat.le_of_ble_eq_true rfl, Nat.le_of_ble_eq_true rfl⟩) (dp_recv hK hM.1 rfl) hS nA_i [] rfl rfl hl.1 (Nat.le_of_ble_eq_true rfl) dX6_number_68 ⟨Nat.le_of_ble_eq_true rfl, Nat.le_of_ble_eq_true rfl⟩ (fun rH1 H1 locs hp hzH1 hkH1 hS => ?_)
    obtain ⟨rfl, rfl⟩ := hp
    exact W.iret hx hb hr (fun t ht hW => ⟨⟨fq R, s.heap, rfl, ⟨by simp [tcnt], _, _, hM⟩, ht⟩, hS.F ht⟩) hS.2.2 dX6_number_71
  · refine lv_iload_n hx hb dX6_number_0 rfl (lv_at hl 1 rfl) ?_
    refine lv_tableIn (off := 66) (tgt := 67) hx hb dX6_number_1 (by decide) (by decide) (by rfl) (by decide) ?_
    refine lv_aload_n hx hb dX6_number_67 rfl (lv_at hl 0 rfl) ?_
    refine dp_Vi hF hK hN (c_X6_frequency l D G μ R S N E P B L1 L2 L3 sm kp th la ln sp od hs  _ hμ hM hwz) (cwV 0 hts gX6_number_X6_frequency rfl rfl rfl (by decide +kernel) ⟨Nat.le_of_ble_eq_true rfl, Nat.le_of_ble_eq_true rfl⟩) (dp_recv hK hM.1 rfl) hS nA_i [] rfl rfl hl.1 (Nat.le_of_ble_eq_true rfl) dX6_number_68 ⟨Nat.le_of_ble_eq_true rfl, Nat.le_of_ble_eq_true rfl⟩ (fun rH2 H2 locs hp hzH2 hkH2 hS => ?_)
    obtain ⟨rfl, rfl⟩ := hp
    exact W.iret hx hb hr (fun t ht hW => ⟨⟨fq R, s.heap, rfl, ⟨by simp [tcnt], _, _, hM⟩, ht⟩, hS.F ht⟩) hS.2.2 dX6_number_71
  · refine lv_iload_n hx hb dX6_number_0 rfl (lv_at hl 1 rfl) ?_
    refine lv_tableIn (off := 71) (tgt := 72) hx hb dX6_number_1 (by decide) (by decide) (by rfl) (by decide) ?_
    refine lv_aload_n hx hb dX6_number_72 rfl (lv_at hl 0 rfl) ?_
    refine dp_Vi hF hK hN (c_X6_load l D G μ R S N E P B L1 L2 L3 sm kp th la ln sp od hs  _ hμ hM hwz) (cwV 0 hts gX6_number_X6_load rfl rfl rfl (by decide +kernel) ⟨Nat.le_of_ble_eq_true rfl, Nat.le_of_ble_eq_true rfl⟩) (dp_recv hK hM.1 rfl) hS nA_i [] rfl rfl hl.1 (Nat.le_of_ble_eq_true rfl) dX6_number_73 ⟨Nat.le_of_ble_eq_true rfl, Nat.le_of_ble_eq_true rfl⟩ (fun rH3 H3 locs hp hzH3 hkH3 hS => ?_)
    obtain ⟨rfl, rfl⟩ := hp
    exact W.iret hx hb hr (fun t ht hW => ⟨⟨ld R, s.heap, rfl, ⟨by simp [tcnt], _, _, hM⟩, ht⟩, hS.F ht⟩) hS.2.2 dX6_number_76
  · refine lv_iload_n hx hb dX6_number_0 rfl (lv_at hl 1 rfl) ?_
    refine lv_tableIn (off := 76) (tgt := 77) hx hb dX6_number_1 (by decide) (by decide) (by rfl) (by decide) ?_
    refine lv_aload_n hx hb dX6_number_77 rfl (lv_at hl 0 rfl) ?_
    refine dp_Vi hF hK hN (c_X6_allPowers l D G μ R S N E P B L1 L2 L3 sm kp th la ln sp od hs  _ hμ hM hwz) (cwV 0 hts gX6_number_X6_allPowers rfl rfl rfl (by decide +kernel) ⟨Nat.le_of_ble_eq_true rfl, Nat.le_of_ble_eq_true rfl⟩) (dp_recv hK hM.1 rfl) hS (fun q hq => hq) [] rfl rfl hl.1 (Nat.le_of_ble_eq_true rfl) dX6_number_78 ⟨Nat.le_of_ble_eq_true rfl, Nat.le_of_ble_eq_true rfl⟩ (fun rH4 H4 locs hp hzH4 hkH4 hS => ?_)
    obtain ⟨rfl, P, la, hM⟩ := hp
    exact W.iret hx hb hr (fun t ht hW => ⟨⟨psum R (fq R) 3, H4, rfl, ⟨by simp [tcnt], _, _, hM⟩, ht⟩, hS.F ht⟩) hS.2.2 dX6_number_81
  · refine lv_iload_n hx hb dX6_number_0 rfl (lv_at hl 1 rfl) ?_
    refine lv_tableIn (off := 81) (tgt := 82) hx hb dX6_number_1 (by decide) (by decide) (by rfl) (by decide) ?_
    refine lv_aload_n hx hb dX6_number_82 rfl (lv_at hl 0 rfl) ?_
    refine dp_Vi hF hK hN (c_X6_lacks l D G μ R S N E P B L1 L2 L3 sm kp th la ln sp od hs  _ hμ hM hwz) (cwV 0 hts gX6_number_X6_lacks rfl rfl rfl (by decide +kernel) ⟨Nat.le_of_ble_eq_true rfl, Nat.le_of_ble_eq_true rfl⟩) (dp_recv hK hM.1 rfl) hS (fun q hq => hq) [] rfl rfl hl.1 (Nat.le_of_ble_eq_true rfl) dX6_number_83 ⟨Nat.le_of_ble_eq_true rfl, Nat.le_of_ble_eq_true rfl⟩ (fun rH5 H5 locs hp hzH5 hkH5 hS => ?_)
    obtain ⟨rfl, P, la, hM⟩ := hp
    exact W.iret hx hb hr (fun t ht hW => ⟨⟨lk R (fq R), H5, rfl, ⟨by simp [tcnt], _, _, hM⟩, ht⟩, hS.F ht⟩) hS.2.2 dX6_number_86
  · refine lv_iload_n hx hb dX6_number_0 rfl (lv_at hl 1 rfl) ?_
    refine lv_tableIn (off := 86) (tgt := 87) hx hb dX6_number_1 (by decide) (by decide) (by rfl) (by decide) ?_
    refine lv_aload_n hx hb dX6_number_87 rfl (lv_at hl 0 rfl) ?_
    refine lv_iconst (v := 3) hx hb dX6_number_88 (by decide) ?_
    refine dp_Vi hF hK hN (c_X6_sum l D G μ R S N E P B L1 L2 L3 sm kp th la ln sp od hs 3 11 _ hμ hM (by decide) rfl) (cwV 1 hts gX6_number_X6_sum rfl rfl rfl (by decide +kernel) ⟨Nat.le_of_ble_eq_true rfl, Nat.le_of_ble_eq_true rfl⟩) (dp_recv hK hM.1 rfl) hS nA_i [] rfl rfl hl.1 (Nat.le_of_ble_eq_true rfl) dX6_number_89 ⟨Nat.le_of_ble_eq_true rfl, Nat.le_of_ble_eq_true rfl⟩ (fun rH6 H6 locs hp hzH6 hkH6 hS => ?_)
    obtain ⟨rfl, rfl⟩ := hp
    exact W.iret hx hb hr (fun t ht hW => ⟨⟨sm3 R 11, s.heap, rfl, ⟨by rw [sm3_o (fun i hi => (hwz.1.1 i hi).1)]; simp [tcnt], _, _, hM⟩, ht⟩, hS.F ht⟩) hS.2.2 dX6_number_92
  · refine lv_iload_n hx hb dX6_number_0 rfl (lv_at hl 1 rfl) ?_
    refine lv_tableIn (off := 92) (tgt := 93) hx hb dX6_number_1 (by decide) (by decide) (by rfl) (by decide) ?_
    refine lv_aload_n hx hb dX6_number_93 rfl (lv_at hl 0 rfl) ?_
    refine lv_iconst (v := 4) hx hb dX6_number_94 (by decide) ?_
    refine dp_Vi hF hK hN (c_X6_sum l D G μ R S N E P B L1 L2 L3 sm kp th la ln sp od hs 4 12 _ hμ hM (by decide) rfl) (cwV 1 hts gX6_number_X6_sum rfl rfl rfl (by decide +kernel) ⟨Nat.le_of_ble_eq_true rfl, Nat.le_of_ble_eq_true rfl⟩) (dp_recv hK hM.1 rfl) hS nA_i [] rfl rfl hl.1 (Nat.le_of_ble_eq_true rfl) dX6_number_95 ⟨Nat.le_of_ble_eq_true rfl, Nat.le_of_ble_eq_true rfl⟩ (fun rH7 H7 locs hp hzH7 hkH7 hS => ?_)
    obtain ⟨rfl, rfl⟩ := hp
    exact W.iret hx hb hr (fun t ht hW => ⟨⟨sm3 R 12, s.heap, rfl, ⟨by rw [sm3_o (fun i hi => (hwz.1.1 i hi).2)]; simp [tcnt], _, _, hM⟩, ht⟩, hS.F ht⟩) hS.2.2 dX6_number_98
  · refine lv_iload_n hx hb dX6_number_0 rfl (lv_at hl 1 rfl) ?_
    refine lv_tableIn (off := 98) (tgt := 99) hx hb dX6_number_1 (by decide) (by decide) (by rfl) (by decide) ?_
    refine lv_aload_n hx hb dX6_number_99 rfl (lv_at hl 0 rfl) ?_
    refine dp_get hx hb hts (dp_hin 50 rfl) hown hK hM.1 rfl 0 (by decide) (hts (.fieldLink RX6 7 "DroopBoardModel" "row" "[I") (List.mem_of_getElem? (i := 1) rfl)) rfl dX6_number_100 ?_
    refine lv_iconst (v := 5) hx hb dX6_number_103 (by decide) ?_
    refine dp_iald hx hb hK hM.2.1 0 rfl 5 rfl (by decide) (by decide) dX6_number_104 ?_
    exact W.iret hx hb hr (fun t ht hW => ⟨⟨R 5, s.heap, rfl, ⟨by rw [h5]; simp [tcnt], _, _, hM⟩, ht⟩, hS.F ht⟩) hS.2.2 dX6_number_105
  · refine lv_iload_n hx hb dX6_number_0 rfl (lv_at hl 1 rfl) ?_
    refine lv_tableIn (off := 105) (tgt := 106) hx hb dX6_number_1 (by decide) (by decide) (by rfl) (by decide) ?_
    refine lv_aload_n hx hb dX6_number_106 rfl (lv_at hl 0 rfl) ?_
    refine dp_get hx hb hts (dp_hin 50 rfl) hown hK hM.1 rfl 0 (by decide) (hts (.fieldLink RX6 7 "DroopBoardModel" "row" "[I") (List.mem_of_getElem? (i := 1) rfl)) rfl dX6_number_107 ?_
    refine lv_bipush (v := 6) hx hb dX6_number_110 (by decide) ?_
    refine dp_iald hx hb hK hM.2.1 0 rfl 6 rfl (by decide) (by decide) dX6_number_112 ?_
    exact W.iret hx hb hr (fun t ht hW => ⟨⟨R 6, s.heap, rfl, ⟨by rw [h6]; simp [tcnt], _, _, hM⟩, ht⟩, hS.F ht⟩) hS.2.2 dX6_number_113
  · refine lv_iload_n hx hb dX6_number_0 rfl (lv_at hl 1 rfl) ?_
    refine lv_tableIn (off := 113) (tgt := 114) hx hb dX6_number_1 (by decide) (by decide) (by rfl) (by decide) ?_
    refine lv_aload_n hx hb dX6_number_114 rfl (lv_at hl 0 rfl) ?_
    refine dp_get hx hb hts (dp_hin 50 rfl) hown hK hM.1 rfl 0 (by decide) (hts (.fieldLink RX6 7 "DroopBoardModel" "row" "[I") (List.mem_of_getElem? (i := 1) rfl)) rfl dX6_number_115 ?_
    refine lv_bipush (v := 7) hx hb dX6_number_118 (by decide) ?_
    refine dp_iald hx hb hK hM.2.1 0 rfl 7 rfl (by decide) (by decide) dX6_number_120 ?_
    exact W.iret hx hb hr (fun t ht hW => ⟨⟨R 7, s.heap, rfl, ⟨by simp [tcnt], _, _, hM⟩, ht⟩, hS.F ht⟩) hS.2.2 dX6_number_121
  · refine lv_iload_n hx hb dX6_number_0 rfl (lv_at hl 1 rfl) ?_
    refine lv_tableOut (tgt := 122) hx hb dX6_number_1 (by decide) (by decide) ?_
    refine lv_aload_n hx hb dX6_number_122 rfl (lv_at hl 0 rfl) ?_
    refine dp_get hx hb hts (dp_hin 50 rfl) hown hK hM.1 rfl 2 (by decide) (hts (.fieldLink RX6 49 "DroopBoardModel" "savedMany" "I") (List.mem_of_getElem? (i := 2) rfl)) rfl dX6_number_123 ?_
    exact W.iret hx hb hr (fun t ht hW => ⟨⟨sm, s.heap, rfl, ⟨by rw [hsm]; simp [tcnt], _, _, hM⟩, ht⟩, hS.F ht⟩) hS.2.2 dX6_number_126

set_option maxHeartbeats 600000 in
set_option maxRecDepth 100000 in
theorem c_X6_share (l : Launch) (D : va_G) (G : Nat → ClassId) (μ : Nat → Nat) (R S N E P B L1 L2 L3 : Nat → Int32) (sm kp th la ln sp od : Int32) (hs : Int64)  (H : Heap) (hμ : inj 10 μ) (hM : MO D G μ R S N E P B L1 L2 L3 sm kp th la ln sp od hs H) (hwz : wz R) (hrt : rat R 3 = 0 ↔ alv R = 0) (hfd : ¬ rat R 3 = 0 → vf_n64 (FP.ddiv (FP.i2d (ld R)) (FP.i2d (rat R 3)))) : Met l yX6_share wsX6_share ({ frames := 4, cells := 0, slots := 0, locals := 85 } : Room) (va_Pc [.ref (μ 0)] (CX D G H)) (QD nA (fun r h => H = h ∧ ldsh R = r)) 0 0 (nA) := by
  refine Met.ofW (cc := cX6_share) (maxL := 1) (ret := (some .double)) (by decide) rfl ?_
  intro p e s m args below meth c s₁ B0 hml hv
  obtain ⟨rfl, rfl, hK, hN⟩ := hv
  have hx := B0.exec
  have hb := B0.bytes
  have hr := B0.returns
  have hts := atoms_spec (ws := wsX6_share) B0.pre
  have hown : s.vm.findClass RX6 = some m.cls := findClass_of_methodNamed B0.named
  have hlocks := B0.notSynchronized
  have hF : CallFix p m c cX6_share 1 s ([.ref (μ 0)] : List Value).toArray wsX6_share RX6 := ⟨hx, hb, hml, hown, hts⟩
  have hS : va_S (nA) s.heap s.heap [] := va_S.rf
  have hl := lv_entry ([.ref (μ 0)]) (n := 1) (Nat.le_of_ble_eq_true rfl)
  rw [lg_entry_eq]
  generalize (lg_sl ([.ref (μ 0)]) ++ List.replicate (1 - (lg_sl ([.ref (μ 0)])).length) Slot.unset).toArray = ls at hl ⊢
  have hl : lv_has ls 1 [(0, .ref (μ 0))] := hl
  refine lv_aload_n hx hb dX6_share_0 rfl (lv_at hl 0 rfl) ?_
  refine dp_Vi hF hK hN (c_X6_isAlive l D G μ R S N E P B L1 L2 L3 sm kp th la ln sp od hs  _ hμ hM hwz.1) (cwV 0 hts gX6_share_X6_isAlive rfl rfl rfl (by decide +kernel) ⟨Nat.le_of_ble_eq_true rfl, Nat.le_of_ble_eq_true rfl⟩) (dp_recv hK hM.1 rfl) hS nA_i [] rfl rfl hl.1 (Nat.le_of_ble_eq_true rfl) dX6_share_1 ⟨Nat.le_of_ble_eq_true rfl, Nat.le_of_ble_eq_true rfl⟩ (fun rH1 H1 locs hp hzH1 hkH1 hS => ?_)
  obtain ⟨rfl, rfl⟩ := hp
  refine lv_if_eq (tgt := 21) hx hb dX6_share_4 (by decide) (fun c1 => ?_) (fun c1 => ?_)
  · refine lv_dconst0 hx hb dX6_share_21 ?_
    exact W.dret hx hb hr (fun t ht hW => ⟨⟨FP.dconst0, s.heap, rfl, ⟨rfl, by rw [ldsh, if_pos (hrt.mpr c1)]⟩, ht⟩, hS.F ht⟩) hS.2.2 dX6_share_22
  refine lv_aload_n hx hb dX6_share_7 rfl (lv_at hl 0 rfl) ?_
  refine dp_Vi hF hK hN (c_X6_load l D G μ R S N E P B L1 L2 L3 sm kp th la ln sp od hs  _ hμ hM hwz) (cwV 0 hts gX6_share_X6_load rfl rfl rfl (by decide +kernel) ⟨Nat.le_of_ble_eq_true rfl, Nat.le_of_ble_eq_true rfl⟩) (dp_recv hK hM.1 rfl) hS nA_i [] rfl rfl hl.1 (Nat.le_of_ble_eq_true rfl) dX6_share_8 ⟨Nat.le_of_ble_eq_true rfl, Nat.le_of_ble_eq_true rfl⟩ (fun rH2 H2 locs hp hzH2 hkH2 hS => ?_)
  obtain ⟨rfl, rfl⟩ := hp
  refine lv_i2d hx hb dX6_share_11 ?_
  refine lv_aload_n hx hb dX6_share_12 rfl (lv_at hl 0 rfl) ?_
  refine dp_Vi hF hK hN (c_X6_ratings l D G μ R S N E P B L1 L2 L3 sm kp th la ln sp od hs  _ hμ hM hwz.1) (cwV 0 hts gX6_share_X6_ratings rfl rfl rfl (by decide +kernel) ⟨Nat.le_of_ble_eq_true rfl, Nat.le_of_ble_eq_true rfl⟩) (dp_recv hK hM.1 rfl) hS nA_i [.double (FP.i2d (ld R))] rfl rfl hl.1 (Nat.le_of_ble_eq_true rfl) dX6_share_13 ⟨Nat.le_of_ble_eq_true rfl, Nat.le_of_ble_eq_true rfl⟩ (fun rH3 H3 locs hp hzH3 hkH3 hS => ?_)
  obtain ⟨rfl, rfl⟩ := hp
  refine lv_i2d hx hb dX6_share_16 ?_
  refine lv_ddiv hx hb dX6_share_17 (hfd (fun q => c1 (hrt.mp q))) ?_
  refine lv_goto (tgt := 22) hx hb dX6_share_18 (by decide) ?_
  exact W.dret hx hb hr (fun t ht hW => ⟨⟨FP.ddiv (FP.i2d (ld R)) (FP.i2d (rat R 3)), s.heap, rfl, ⟨rfl, by rw [ldsh, if_neg (fun q => c1 (hrt.mp q))]⟩, ht⟩, hS.F ht⟩) hS.2.2 dX6_share_22

set_option maxHeartbeats 600000 in
set_option maxRecDepth 100000 in
theorem c_X6_mean (l : Launch) (D : va_G) (G : Nat → ClassId) (μ : Nat → Nat) (R S N E P B L1 L2 L3 : Nat → Int32) (sm kp th la ln sp od : Int32) (hs : Int64)  (H : Heap) (hμ : inj 10 μ) (hM : MO D G μ R S N E P B L1 L2 L3 sm kp th la ln sp od hs H) (hfd : ¬ R 4 = 0 → vf_n32 (FP.fdiv (FP.i2f (R 7)) (FP.i2f (R 4)))) : Met l yX6_mean wsX6_mean ({ frames := 0, cells := 0, slots := 0, locals := 0 } : Room) (va_Pc [.ref (μ 0)] (CX D G H)) (QF nA (fun r h => H = h ∧ mnpw R = r)) 0 0 (nA) := by
  refine Met.ofW (cc := cX6_mean) (maxL := 1) (ret := (some .float)) (by decide) rfl ?_
  intro p e s m args below meth c s₁ B0 hml hv
  obtain ⟨rfl, rfl, hK, hN⟩ := hv
  have hx := B0.exec
  have hb := B0.bytes
  have hr := B0.returns
  have hts := atoms_spec (ws := wsX6_mean) B0.pre
  have hown : s.vm.findClass RX6 = some m.cls := findClass_of_methodNamed B0.named
  have hlocks := B0.notSynchronized
  have hF : CallFix p m c cX6_mean 1 s ([.ref (μ 0)] : List Value).toArray wsX6_mean RX6 := ⟨hx, hb, hml, hown, hts⟩
  have hS : va_S (nA) s.heap s.heap [] := va_S.rf
  have hl := lv_entry ([.ref (μ 0)]) (n := 1) (Nat.le_of_ble_eq_true rfl)
  rw [lg_entry_eq]
  generalize (lg_sl ([.ref (μ 0)]) ++ List.replicate (1 - (lg_sl ([.ref (μ 0)])).length) Slot.unset).toArray = ls at hl ⊢
  have hl : lv_has ls 1 [(0, .ref (μ 0))] := hl
  refine lv_aload_n hx hb dX6_mean_0 rfl (lv_at hl 0 rfl) ?_
  refine dp_get hx hb hts (dp_hin 2 rfl) hown hK hM.1 rfl 0 (by decide) (hts (.fieldLink RX6 7 "DroopBoardModel" "row" "[I") (List.mem_of_getElem? (i := 1) rfl)) rfl dX6_mean_1 ?_
  refine lv_iconst (v := 4) hx hb dX6_mean_4 (by decide) ?_
  refine dp_iald hx hb hK hM.2.1 0 rfl 4 rfl (by decide) (by decide) dX6_mean_5 ?_
  refine lv_if_ne (tgt := 13) hx hb dX6_mean_6 (by decide) (fun c1 => ?_) (fun c1 => ?_)
  · refine lv_aload_n hx hb dX6_mean_13 rfl (lv_at hl 0 rfl) ?_
    refine dp_get hx hb hts (dp_hin 2 rfl) hown hK hM.1 rfl 0 (by decide) (hts (.fieldLink RX6 7 "DroopBoardModel" "row" "[I") (List.mem_of_getElem? (i := 1) rfl)) rfl dX6_mean_14 ?_
    refine lv_bipush (v := 7) hx hb dX6_mean_17 (by decide) ?_
    refine dp_iald hx hb hK hM.2.1 0 rfl 7 rfl (by decide) (by decide) dX6_mean_19 ?_
    refine lv_i2f hx hb dX6_mean_20 ?_
    refine lv_aload_n hx hb dX6_mean_21 rfl (lv_at hl 0 rfl) ?_
    refine dp_get hx hb hts (dp_hin 2 rfl) hown hK hM.1 rfl 0 (by decide) (hts (.fieldLink RX6 7 "DroopBoardModel" "row" "[I") (List.mem_of_getElem? (i := 1) rfl)) rfl dX6_mean_22 ?_
    refine lv_iconst (v := 4) hx hb dX6_mean_25 (by decide) ?_
    refine dp_iald hx hb hK hM.2.1 0 rfl 4 rfl (by decide) (by decide) dX6_mean_26 ?_
    refine lv_i2f hx hb dX6_mean_27 ?_
    refine lv_fdiv hx hb dX6_mean_28 (hfd c1) ?_
    exact W.fret hx hb hr (fun t ht hW => ⟨⟨FP.fdiv (FP.i2f (R 7)) (FP.i2f (R 4)), s.heap, rfl, ⟨rfl, by rw [mnpw, if_neg c1]⟩, ht⟩, hS.F ht⟩) hS.2.2 dX6_mean_29
  refine lv_fconst0 hx hb dX6_mean_9 ?_
  refine lv_goto (tgt := 29) hx hb dX6_mean_10 (by decide) ?_
  exact W.fret hx hb hr (fun t ht hW => ⟨⟨FP.fconst0, s.heap, rfl, ⟨rfl, by rw [mnpw, if_pos c1]⟩, ht⟩, hS.F ht⟩) hS.2.2 dX6_mean_29

set_option maxHeartbeats 600000 in
set_option maxRecDepth 100000 in
theorem c_X6_mix (l : Launch) (D : va_G) (G : Nat → ClassId) (μ : Nat → Nat) (R S N E P B L1 L2 L3 : Nat → Int32) (sm kp th la ln sp od : Int32) (hs : Int64) (x9 : Int64) (H : Heap) (hμ : inj 10 μ) (hM : MO D G μ R S N E P B L1 L2 L3 sm kp th la ln sp od hs H) : Met l yX6_mix wsX6_mix ({ frames := 0, cells := 0, slots := 0, locals := 0 } : Room) (va_Pc [.ref (μ 0), .long x9] (CX D G H)) (QV (A6 μ) (fun h => MO D G μ R S N E P B L1 L2 L3 sm kp th la ln sp od (31 * hs + x9) h)) 0 0 (A6 μ) := by
  refine Met.ofW (cc := cX6_mix) (maxL := 3) (ret := none) (by decide) rfl ?_
  intro p e s m args below meth c s₁ B0 hml hv
  obtain ⟨rfl, rfl, hK, hN⟩ := hv
  have hx := B0.exec
  have hb := B0.bytes
  have hr := B0.returns
  have hts := atoms_spec (ws := wsX6_mix) B0.pre
  have hown : s.vm.findClass RX6 = some m.cls := findClass_of_methodNamed B0.named
  have hlocks := B0.notSynchronized
  have hF : CallFix p m c cX6_mix 3 s ([.ref (μ 0), .long x9] : List Value).toArray wsX6_mix RX6 := ⟨hx, hb, hml, hown, hts⟩
  have hS : va_S (A6 μ) s.heap s.heap [] := va_S.rf
  have hl := lv_entry ([.ref (μ 0), .long x9]) (n := 3) (Nat.le_of_ble_eq_true rfl)
  rw [lg_entry_eq]
  generalize (lg_sl ([.ref (μ 0), .long x9]) ++ List.replicate (3 - (lg_sl ([.ref (μ 0), .long x9])).length) Slot.unset).toArray = ls at hl ⊢
  have hl : lv_has ls 3 [(0, .ref (μ 0)), (1, .long x9)] := hl
  refine lv_aload_n hx hb dX6_mix_0 rfl (lv_at hl 0 rfl) ?_
  refine lv_ldc2 (v := (31)) hx hb hown (hts (.constantLong RX6 238 (31)) (List.mem_of_getElem? (i := 1) rfl)) dX6_mix_1 ?_
  refine lv_aload_n hx hb dX6_mix_4 rfl (lv_at hl 0 rfl) ?_
  refine dp_get hx hb hts (dp_hin 3 rfl) hown hK hM.1 rfl 16 (by decide) (hts (.fieldLink RX6 240 "DroopBoardModel" "hash" "J") (List.mem_of_getElem? (i := 2) rfl)) rfl dX6_mix_5 ?_
  refine lv_lmul hx hb dX6_mix_8 ?_
  refine lv_lload_n hx hb dX6_mix_9 rfl (lv_at hl 1 rfl) ?_
  refine lv_ladd hx hb dX6_mix_10 ?_
  refine dp_put (A := A6 μ) (v := .long ((31 * hs) + x9)) hx hb hts (dp_hin 3 rfl) tyX6 tyX6_ok nmX6 hown hK hM.1 (⟨0, by decide, rfl⟩ : A6 μ (μ 0)) hS rfl 16 (by decide) (hts (.fieldLink RX6 240 "DroopBoardModel" "hash" "J") (List.mem_of_getElem? (i := 2) rfl)) rfl rfl rfl (Nat.le_of_ble_eq_true rfl) dX6_mix_11 (fun H1 locs hH1 hzH1 hkH1 hS => ?_)
  have hM := hM.o (sm' := sm) (kp' := kp) (th' := th) (la' := la) (ln' := ln) (sp' := sp) (od' := od) (hs' := ((31 * hs) + x9)) hμ hH1 hkH1
  exact W.vret hx hb hr (fun t ht hW => ⟨⟨H1, rfl, hM, ht⟩, hS.F ht⟩) hS.2.2 dX6_mix_14
