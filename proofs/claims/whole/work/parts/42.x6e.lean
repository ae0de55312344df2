set_option maxHeartbeats 600000 in
set_option maxRecDepth 100000 in
theorem c_X6_trip (l : Launch) (D : va_G) (G : Nat → ClassId) (μ : Nat → Nat) (R S N E P B L1 L2 L3 : Nat → Int32) (sm kp th la ln sp od : Int32) (hs : Int64)  (H : Heap) (hμ : inj 10 μ) (hM : MO D G μ R S N E P B L1 L2 L3 sm kp th la ln sp od hs H) (htz : tz R) : Met l yX6_trip wsX6_trip ({ frames := 2, cells := 0, slots := 0, locals := 44 } : Room) (va_Pc [.ref (μ 0)] (CX D G H)) (QI (A6 μ) (fun r h => trm R 3 = r ∧ MO D G μ (upd (trs R 3) 5 (R 5 + trm R 3)) S N E P B L1 L2 L3 sm kp th la ln sp od hs h)) 0 0 (A6 μ) := by
  refine Met.ofW (cc := cX6_trip) (maxL := 3) (ret := (some .int)) (by decide) rfl ?_
  intro p e s m args below meth c s₁ B0 hml hv
  obtain ⟨rfl, rfl, hK, hN⟩ := hv
  have hx := B0.exec
  have hb := B0.bytes
  have hr := B0.returns
  have hts := atoms_spec (ws := wsX6_trip) B0.pre
  have hown : s.vm.findClass RX6 = some m.cls := findClass_of_methodNamed B0.named
  have hlocks := B0.notSynchronized
  have hF : CallFix p m c cX6_trip 3 s ([.ref (μ 0)] : List Value).toArray wsX6_trip RX6 := ⟨hx, hb, hml, hown, hts⟩
  have hS : va_S (A6 μ) s.heap s.heap [] := va_S.rf
  have hl := lv_entry ([.ref (μ 0)]) (n := 3) (Nat.le_of_ble_eq_true rfl)
  rw [lg_entry_eq]
  generalize (lg_sl ([.ref (μ 0)]) ++ List.replicate (3 - (lg_sl ([.ref (μ 0)])).length) Slot.unset).toArray = ls at hl ⊢
  have hl : lv_has ls 3 [(0, .ref (μ 0))] := hl
  refine lv_iconst (v := 0) hx hb dX6_trip_0 (by decide) ?_
  refine lv_istore_n (lv' := [(1, .int 0), (0, .ref (μ 0))]) hx hb dX6_trip_1 rfl hl (by decide) rfl (fun ls hl => ?_)
  refine lv_iconst (v := 0) hx hb dX6_trip_2 (by decide) ?_
  refine lv_istore_n (lv' := [(2, .int 0), (1, .int 0), (0, .ref (μ 0))]) hx hb dX6_trip_3 rfl hl (by decide) rfl (fun ls hl => ?_)
  have loop4 : ∀ (m9 : Nat) (i : Nat) (many : Int32) (Q9 : Nat → Int32) (Hh : Heap) (_ : i + m9 = 3) (_ : Q9 = trs R i) (_ : many = trm R i) (_ : tz Q9) (_ : MO D G μ Q9 S N E P B L1 L2 L3 sm kp th la ln sp od hs Hh) (locs : List Loc) (_ : va_S (A6 μ) s.heap Hh locs) (ls : Array Slot) (_ : lv_has ls 3 [(0, .ref (μ 0)), (1, .int many), (2, .int (nI i))]), W p l e (headSpec wsX6_trip ({ frames := 2, cells := 0, slots := 0, locals := 44 } : Room)).room s m ([.ref (μ 0)] : List Value).toArray below meth c Hh locs 0 0 (MQ below (QI (A6 μ) (fun r h => trm R 3 = r ∧ MO D G μ (upd (trs R 3) 5 (R 5 + trm R 3)) S N E P B L1 L2 L3 sm kp th la ln sp od hs h)) ([.ref (μ 0)] : List Value).toArray s 0 0 (A6 μ)) (F0 m 4 ls []) := by
    intro m9
    induction m9 with
    | zero =>
      intro i many Q9 Hh hin hQ hmn hz9 hM locs hS ls hl
      refine lv_iload_n hx hb dX6_trip_4 rfl (lv_at hl 2 rfl) ?_
      refine lv_iconst (v := 3) hx hb dX6_trip_5 (by decide) ?_
      refine lv_icmp_ge (tgt := 88) hx hb dX6_trip_6 (by decide) (fun c1 => ?_) (fun c1 => absurd (nI_le (a := 3) (b := i) (by omega) (by omega)) c1)
      refine lv_aload_n hx hb dX6_trip_88 rfl (lv_at hl 0 rfl) ?_
      refine dp_get hx hb hts (dp_hin 15 rfl) hown hK hM.1 rfl 0 (by decide) (hts (.fieldLink RX6 7 "DroopBoardModel" "row" "[I") (List.mem_of_getElem? (i := 1) rfl)) rfl dX6_trip_89 ?_
      refine lv_iconst (v := 5) hx hb dX6_trip_92 (by decide) ?_
      refine lv_dup2_11 hx hb dX6_trip_93 rfl rfl ?_
      refine dp_iald hx hb hK hM.2.1 0 rfl 5 rfl (by decide) (by decide) dX6_trip_94 ?_
      refine lv_iload_n hx hb dX6_trip_95 rfl (lv_at hl 1 rfl) ?_
      refine lv_iadd hx hb dX6_trip_96 ?_
      refine dp_iast (A := A6 μ) hx hb hK hM.2.1 (⟨1, by decide, rfl⟩ : A6 μ (μ 1)) hS 0 rfl 5 rfl (by decide) (by decide) dX6_trip_97 (fun H1 locs hH1 hzH1 hkH1 hS => ?_)
      have hM := hM.a1 (X' := upd Q9 5 ((Q9 5) + many)) hμ hH1 hkH1
      refine lv_iload_n hx hb dX6_trip_98 rfl (lv_at hl 1 rfl) ?_
      exact W.iret hx hb hr (fun t ht hW => ⟨⟨many, H1, rfl, ⟨by rw [hmn, show i = 3 by omega], by rw [show R 5 + trm R 3 = Q9 5 + many by rw [hQ, hmn, show i = 3 by omega, trs_lo (by decide)], show trs R 3 = Q9 by rw [hQ, show i = 3 by omega]]; exact hM⟩, ht⟩, hS.F ht⟩) hS.2.2 dX6_trip_99
    | succ m9 ih4 =>
      intro i many Q9 Hh hin hQ hmn hz9 hM locs hS ls hl
      refine lv_iload_n hx hb dX6_trip_4 rfl (lv_at hl 2 rfl) ?_
      refine lv_iconst (v := 3) hx hb dX6_trip_5 (by decide) ?_
      refine lv_icmp_ge (tgt := 88) hx hb dX6_trip_6 (by decide) (fun c2 => absurd c2 (nI_ge (a := i) (b := 3) (by omega) (by omega))) (fun c2 => ?_)
      refine lv_aload_n hx hb dX6_trip_9 rfl (lv_at hl 0 rfl) ?_
      refine lv_iload_n hx hb dX6_trip_10 rfl (lv_at hl 2 rfl) ?_
      refine lv_iconst (v := 4) hx hb dX6_trip_11 (by decide) ?_
      refine dp_Vi hF hK hN (c_X6_of l D G μ Q9 S N E P B L1 L2 L3 sm kp th la ln sp od hs i 4 12 _ hμ hM (by omega) (by decide) rfl) (cwV 2 hts gX6_trip_X6_of rfl rfl rfl (by decide +kernel) ⟨Nat.le_of_ble_eq_true rfl, Nat.le_of_ble_eq_true rfl⟩) (dp_recv hK hM.1 rfl) hS nA_i [] rfl rfl hl.1 (Nat.le_of_ble_eq_true rfl) dX6_trip_12 ⟨Nat.le_of_ble_eq_true rfl, Nat.le_of_ble_eq_true rfl⟩ (fun rH2 H2 locs hp hzH2 hkH2 hS => ?_)
      obtain ⟨rfl, rfl⟩ := hp
      refine lv_iconst (v := 1) hx hb dX6_trip_15 (by decide) ?_
      refine lv_icmp_ne (tgt := 82) hx hb dX6_trip_16 (by decide) (fun c3 => ?_) (fun c3 => ?_)
      · refine lv_iinc (v := nI (i + 1)) (lv' := [(2, .int (nI (i + 1))), (0, .ref (μ 0)), (1, .int many)]) hx hb dX6_trip_82 hl (k := 2) rfl (nI_1 i) (by decide) rfl (fun ls hl => ?_)
        refine lv_goto (tgt := 4) hx hb dX6_trip_85 (by decide) ?_
        exact ih4 (i + 1) many Q9 Hh (by omega) (by show _ = tr1 (trs R i) i; rw [← hQ]; exact (tr_o hz9 (by omega) c3).1.symm) (by show _ = trm R i + trc (trs R i) i; rw [← hQ, (tr_o hz9 (by omega) c3).2, Int32.add_zero]; exact hmn) hz9 hM _ hS _ (lv_sub hl [1, 2, 0] rfl)
      refine lv_aload_n hx hb dX6_trip_19 rfl (lv_at hl 0 rfl) ?_
      refine lv_iload_n hx hb dX6_trip_20 rfl (lv_at hl 2 rfl) ?_
      refine lv_bipush (v := 6) hx hb dX6_trip_21 (by decide) ?_
      refine dp_Vi hF hK hN (c_X6_of l D G μ Q9 S N E P B L1 L2 L3 sm kp th la ln sp od hs i 6 14 _ hμ hM (by omega) (by decide) rfl) (cwV 2 hts gX6_trip_X6_of rfl rfl rfl (by decide +kernel) ⟨Nat.le_of_ble_eq_true rfl, Nat.le_of_ble_eq_true rfl⟩) (dp_recv hK hM.1 rfl) hS nA_i [] rfl rfl hl.1 (Nat.le_of_ble_eq_true rfl) dX6_trip_23 ⟨Nat.le_of_ble_eq_true rfl, Nat.le_of_ble_eq_true rfl⟩ (fun rH3 H3 locs hp hzH3 hkH3 hS => ?_)
      obtain ⟨rfl, rfl⟩ := hp
      refine lv_aload_n hx hb dX6_trip_26 rfl (lv_at hl 0 rfl) ?_
      refine dp_get hx hb hts (dp_hin 15 rfl) hown hK hM.1 rfl 0 (by decide) (hts (.fieldLink RX6 7 "DroopBoardModel" "row" "[I") (List.mem_of_getElem? (i := 1) rfl)) rfl dX6_trip_27 ?_
      refine lv_iconst (v := 0) hx hb dX6_trip_30 (by decide) ?_
      refine dp_iald hx hb hK hM.2.1 0 rfl 0 rfl (by decide) (by decide) dX6_trip_31 ?_
      refine lv_icmp_ge (tgt := 51) hx hb dX6_trip_32 (by decide) (fun c4 => ?_) (fun c4 => ?_)
      · refine lv_aload_n hx hb dX6_trip_51 rfl (lv_at hl 0 rfl) ?_
        refine lv_iload_n hx hb dX6_trip_52 rfl (lv_at hl 2 rfl) ?_
        refine lv_iconst (v := 4) hx hb dX6_trip_53 (by decide) ?_
        refine lv_iconst (v := 0) hx hb dX6_trip_54 (by decide) ?_
        refine dp_Vv hF hK hN (c_X6_put l D G μ Q9 S N E P B L1 L2 L3 sm kp th la ln sp od hs i 4 12 0 _ hμ hM (by omega) (by decide) rfl) (cwV 3 hts gX6_trip_X6_put rfl rfl rfl (by decide +kernel) ⟨Nat.le_of_ble_eq_true rfl, Nat.le_of_ble_eq_true rfl⟩) (dp_recv hK hM.1 rfl) hS (fun q hq => hq) [] rfl rfl hl.1 (Nat.le_of_ble_eq_true rfl) dX6_trip_55 ⟨Nat.le_of_ble_eq_true rfl, Nat.le_of_ble_eq_true rfl⟩ (fun H4 locs hp hzH4 hkH4 hS => ?_)
        have hM := hp
        refine lv_aload_n hx hb dX6_trip_58 rfl (lv_at hl 0 rfl) ?_
        refine lv_iload_n hx hb dX6_trip_59 rfl (lv_at hl 2 rfl) ?_
        refine lv_bipush (v := 9) hx hb dX6_trip_60 (by decide) ?_
        refine lv_aload_n hx hb dX6_trip_62 rfl (lv_at hl 0 rfl) ?_
        refine lv_iload_n hx hb dX6_trip_63 rfl (lv_at hl 2 rfl) ?_
        refine lv_bipush (v := 9) hx hb dX6_trip_64 (by decide) ?_
        refine dp_Vi hF hK hN (c_X6_of l D G μ (upd Q9 (12 + 10 * i) 0) S N E P B L1 L2 L3 sm kp th la ln sp od hs i 9 17 _ hμ hM (by omega) (by decide) rfl) (cwV 2 hts gX6_trip_X6_of rfl rfl rfl (by decide +kernel) ⟨Nat.le_of_ble_eq_true rfl, Nat.le_of_ble_eq_true rfl⟩) (dp_recv hK hM.1 rfl) hS nA_i [.int 9, .int (nI i), .ref (μ 0)] rfl rfl hl.1 (Nat.le_of_ble_eq_true rfl) dX6_trip_66 ⟨Nat.le_of_ble_eq_true rfl, Nat.le_of_ble_eq_true rfl⟩ (fun rH5 H5 locs hp hzH5 hkH5 hS => ?_)
        obtain ⟨rfl, rfl⟩ := hp
        refine lv_iconst (v := 1) hx hb dX6_trip_69 (by decide) ?_
        refine lv_iadd hx hb dX6_trip_70 ?_
        refine dp_Vv hF hK hN (c_X6_put l D G μ (upd Q9 (12 + 10 * i) 0) S N E P B L1 L2 L3 sm kp th la ln sp od hs i 9 17 (((upd Q9 (12 + 10 * i) 0) (17 + 10 * i)) + 1) _ hμ hM (by omega) (by decide) rfl) (cwV 3 hts gX6_trip_X6_put rfl rfl rfl (by decide +kernel) ⟨Nat.le_of_ble_eq_true rfl, Nat.le_of_ble_eq_true rfl⟩) (dp_recv hK hM.1 rfl) hS (fun q hq => hq) [] rfl rfl hl.1 (Nat.le_of_ble_eq_true rfl) dX6_trip_71 ⟨Nat.le_of_ble_eq_true rfl, Nat.le_of_ble_eq_true rfl⟩ (fun H6 locs hp hzH6 hkH6 hS => ?_)
        have hM := hp
        refine lv_aload_n hx hb dX6_trip_74 rfl (lv_at hl 0 rfl) ?_
        refine lv_iload_n hx hb dX6_trip_75 rfl (lv_at hl 2 rfl) ?_
        refine dp_Vv hF hK hN (c_X6_rest l D G μ (upd (upd Q9 (12 + 10 * i) 0) (17 + 10 * i) (((upd Q9 (12 + 10 * i) 0) (17 + 10 * i)) + 1)) S N E P B L1 L2 L3 sm kp th la ln sp od hs i _ hμ hM (by omega)) (cwV 1 hts gX6_trip_X6_rest rfl rfl rfl (by decide +kernel) ⟨Nat.le_of_ble_eq_true rfl, Nat.le_of_ble_eq_true rfl⟩) (dp_recv hK hM.1 rfl) hS (fun q hq => hq) [] rfl rfl hl.1 (Nat.le_of_ble_eq_true rfl) dX6_trip_76 ⟨Nat.le_of_ble_eq_true rfl, Nat.le_of_ble_eq_true rfl⟩ (fun H7 locs hp hzH7 hkH7 hS => ?_)
        have hM := hp
        refine lv_iinc (v := many + 1) (lv' := [(1, .int (many + 1)), (0, .ref (μ 0)), (2, .int (nI i))]) hx hb dX6_trip_79 hl (k := 1) rfl rfl (by decide) rfl (fun ls hl => ?_)
        refine lv_iinc (v := nI (i + 1)) (lv' := [(2, .int (nI (i + 1))), (1, .int (many + 1)), (0, .ref (μ 0))]) hx hb dX6_trip_82 hl (k := 2) rfl (nI_1 i) (by decide) rfl (fun ls hl => ?_)
        refine lv_goto (tgt := 4) hx hb dX6_trip_85 (by decide) ?_
        exact ih4 (i + 1) (many + 1) (trd Q9 i) H7 (by omega) (by show _ = tr1 (trs R i) i; rw [← hQ]; exact (tr_1 c4).1.symm) (by show _ = trm R i + trc (trs R i) i; rw [← hQ, (tr_1 c4).2, hmn]) (trd_z hz9 (by omega)) (by rw [← trd_m]; exact hM) _ hS _ (lv_sub hl [2, 1, 0] rfl)
      refine lv_aload_n hx hb dX6_trip_35 rfl (lv_at hl 0 rfl) ?_
      refine lv_iload_n hx hb dX6_trip_36 rfl (lv_at hl 2 rfl) ?_
      refine lv_bipush (v := 7) hx hb dX6_trip_37 (by decide) ?_
      refine dp_Vi hF hK hN (c_X6_of l D G μ Q9 S N E P B L1 L2 L3 sm kp th la ln sp od hs i 7 15 _ hμ hM (by omega) (by decide) rfl) (cwV 2 hts gX6_trip_X6_of rfl rfl rfl (by decide +kernel) ⟨Nat.le_of_ble_eq_true rfl, Nat.le_of_ble_eq_true rfl⟩) (dp_recv hK hM.1 rfl) hS nA_i [] rfl rfl hl.1 (Nat.le_of_ble_eq_true rfl) dX6_trip_39 ⟨Nat.le_of_ble_eq_true rfl, Nat.le_of_ble_eq_true rfl⟩ (fun rH8 H8 locs hp hzH8 hkH8 hS => ?_)
      obtain ⟨rfl, rfl⟩ := hp
      refine lv_aload_n hx hb dX6_trip_42 rfl (lv_at hl 0 rfl) ?_
      refine dp_get hx hb hts (dp_hin 15 rfl) hown hK hM.1 rfl 0 (by decide) (hts (.fieldLink RX6 7 "DroopBoardModel" "row" "[I") (List.mem_of_getElem? (i := 1) rfl)) rfl dX6_trip_43 ?_
      refine lv_iconst (v := 1) hx hb dX6_trip_46 (by decide) ?_
      refine dp_iald hx hb hK hM.2.1 0 rfl 1 rfl (by decide) (by decide) dX6_trip_47 ?_
      refine lv_icmp_lt (tgt := 82) hx hb dX6_trip_48 (by decide) (fun c5 => ?_) (fun c5 => ?_)
      · refine lv_iinc (v := nI (i + 1)) (lv' := [(2, .int (nI (i + 1))), (0, .ref (μ 0)), (1, .int many)]) hx hb dX6_trip_82 hl (k := 2) rfl (nI_1 i) (by decide) rfl (fun ls hl => ?_)
        refine lv_goto (tgt := 4) hx hb dX6_trip_85 (by decide) ?_
        exact ih4 (i + 1) many Q9 Hh (by omega) (by show _ = tr1 (trs R i) i; rw [← hQ]; exact (tr_n c4 c5).1.symm) (by show _ = trm R i + trc (trs R i) i; rw [← hQ, (tr_n c4 c5).2, Int32.add_zero]; exact hmn) hz9 hM _ hS _ (lv_sub hl [1, 2, 0] rfl)
      refine lv_aload_n hx hb dX6_trip_51 rfl (lv_at hl 0 rfl) ?_
      refine lv_iload_n hx hb dX6_trip_52 rfl (lv_at hl 2 rfl) ?_
      refine lv_iconst (v := 4) hx hb dX6_trip_53 (by decide) ?_
      refine lv_iconst (v := 0) hx hb dX6_trip_54 (by decide) ?_
      refine dp_Vv hF hK hN (c_X6_put l D G μ Q9 S N E P B L1 L2 L3 sm kp th la ln sp od hs i 4 12 0 _ hμ hM (by omega) (by decide) rfl) (cwV 3 hts gX6_trip_X6_put rfl rfl rfl (by decide +kernel) ⟨Nat.le_of_ble_eq_true rfl, Nat.le_of_ble_eq_true rfl⟩) (dp_recv hK hM.1 rfl) hS (fun q hq => hq) [] rfl rfl hl.1 (Nat.le_of_ble_eq_true rfl) dX6_trip_55 ⟨Nat.le_of_ble_eq_true rfl, Nat.le_of_ble_eq_true rfl⟩ (fun H9 locs hp hzH9 hkH9 hS => ?_)
      have hM := hp
      refine lv_aload_n hx hb dX6_trip_58 rfl (lv_at hl 0 rfl) ?_
      refine lv_iload_n hx hb dX6_trip_59 rfl (lv_at hl 2 rfl) ?_
      refine lv_bipush (v := 9) hx hb dX6_trip_60 (by decide) ?_
      refine lv_aload_n hx hb dX6_trip_62 rfl (lv_at hl 0 rfl) ?_
      refine lv_iload_n hx hb dX6_trip_63 rfl (lv_at hl 2 rfl) ?_
      refine lv_bipush (v := 9) hx hb dX6_trip_64 (by decide) ?_
      refine dp_Vi hF hK hN (c_X6_of l D G μ (upd Q9 (12 + 10 * i) 0) S N E P B L1 L2 L3 sm kp th la ln sp od hs i 9 17 _ hμ hM (by omega) (by decide) rfl) (cwV 2 hts gX6_trip_X6_of rfl rfl rfl (by decide +kernel) ⟨Nat.le_of_ble_eq_true rfl, Nat.le_of_ble_eq_true rfl⟩) (dp_recv hK hM.1 rfl) hS nA_i [.int 9, .int (nI i), .ref (μ 0)] rfl rfl hl.1 (Nat.le_of_ble_eq_true rfl) dX6_trip_66 ⟨Nat.le_of_ble_eq_true rfl, Nat.le_of_ble_eq_true rfl⟩ (fun rH10 H10 locs hp hzH10 hkH10 hS => ?_)
      obtain ⟨rfl, rfl⟩ := hp
      refine lv_iconst (v := 1) hx hb dX6_trip_69 (by decide) ?_
      refine lv_iadd hx hb dX6_trip_70 ?_
      refine dp_Vv hF hK hN (c_X6_put l D G μ (upd Q9 (12 + 10 * i) 0) S N E P B L1 L2 L3 sm kp th la ln sp od hs i 9 17 (((upd Q9 (12 + 10 * i) 0) (17 + 10 * i)) + 1) _ hμ hM (by omega) (by decide) rfl) (cwV 3 hts gX6_trip_X6_put rfl rfl rfl (by decide +kernel) ⟨Nat.le_of_ble_eq_true rfl, Nat.le_of_ble_eq_true rfl⟩) (dp_recv hK hM.1 rfl) hS (fun q hq => hq) [] rfl rfl hl.1 (Nat.le_of_ble_eq_true rfl) dX6_trip_71 ⟨Nat.le_of_ble_eq_true rfl, Nat.le_of_ble_eq_true rfl⟩ (fun H11 locs hp hzH11 hkH11 hS => ?_)
      have hM := hp
      refine lv_aload_n hx hb dX6_trip_74 rfl (lv_at hl 0 rfl) ?_
      refine lv_iload_n hx hb dX6_trip_75 rfl (lv_at hl 2 rfl) ?_
      refine dp_Vv hF hK hN (c_X6_rest l D G μ (upd (upd Q9 (12 + 10 * i) 0) (17 + 10 * i) (((upd Q9 (12 + 10 * i) 0) (17 + 10 * i)) + 1)) S N E P B L1 L2 L3 sm kp th la ln sp od hs i _ hμ hM (by omega)) (cwV 1 hts gX6_trip_X6_rest rfl rfl rfl (by decide +kernel) ⟨Nat.le_of_ble_eq_true rfl, Nat.le_of_ble_eq_true rfl⟩) (dp_recv hK hM.1 rfl) hS (fun q hq => hq) [] rfl rfl hl.1 (Nat.le_of_ble_eq_true rfl) dX6_trip_76 ⟨Nat.le_of_ble_eq_true rfl, Nat.le_of_ble_eq_true rfl⟩ (fun H12 locs hp hzH12 hkH12 hS => ?_)
      have hM := hp
      refine lv_iinc (v := many + 1) (lv' := [(1, .int (many + 1)), (0, .ref (μ 0)), (2, .int (nI i))]) hx hb dX6_trip_79 hl (k := 1) rfl rfl (by decide) rfl (fun ls hl => ?_)
      refine lv_iinc (v := nI (i + 1)) (lv' := [(2, .int (nI (i + 1))), (1, .int (many + 1)), (0, .ref (μ 0))]) hx hb dX6_trip_82 hl (k := 2) rfl (nI_1 i) (by decide) rfl (fun ls hl => ?_)
      refine lv_goto (tgt := 4) hx hb dX6_trip_85 (by decide) ?_
      exact ih4 (i + 1) (many + 1) (trd Q9 i) H12 (by omega) (by show _ = tr1 (trs R i) i; rw [← hQ]; exact (tr_2 c4 c5).1.symm) (by show _ = trm R i + trc (trs R i) i; rw [← hQ, (tr_2 c4 c5).2, hmn]) (trd_z hz9 (by omega)) (by rw [← trd_m]; exact hM) _ hS _ (lv_sub hl [2, 1, 0] rfl)
  exact loop4 3 0 0 R s.heap rfl rfl rfl htz hM _ hS _ (lv_sub hl [2, 1, 0] rfl)
