set_option maxHeartbeats 600000 in
set_option maxRecDepth 100000 in
theorem c_X6_tick (l : Launch) (D : va_G) (G : Nat → ClassId) (μ : Nat → Nat) (R S N E P B L1 L2 L3 : Nat → Int32) (sm kp th la ln sp od : Int32) (hs : Int64)  (H : Heap) (hμ : inj 10 μ) (hM : MO D G μ R S N E P B L1 L2 L3 sm kp th la ln sp od hs H) (hwz : wz R) (htz : tz (tD R)) : Met l yX6_tick wsX6_tick ({ frames := 6, cells := 0, slots := 0, locals := 131 } : Room) (va_Pc [.ref (μ 0)] (CX D G H)) (QI (A6 μ) (fun r h => tkn R = r ∧ MP D G μ (tk R) S N E B L1 L2 L3 sm kp th ln sp od hs h)) 0 0 (A6 μ) := by
  refine Met.ofW (cc := cX6_tick) (maxL := 4) (ret := (some .int)) (by decide) rfl ?_
  intro p e s m args below meth c s₁ B0 hml hv
  obtain ⟨rfl, rfl, hK, hN⟩ := hv
  have hx := B0.exec
  have hb := B0.bytes
  have hr := B0.returns
  have hts := atoms_spec (ws := wsX6_tick) B0.pre
  have hown : s.vm.findClass RX6 = some m.cls := findClass_of_methodNamed B0.named
  have hlocks := B0.notSynchronized
  have hF : CallFix p m c cX6_tick 4 s ([.ref (μ 0)] : List Value).toArray wsX6_tick RX6 := ⟨hx, hb, hml, hown, hts⟩
  have hS : va_S (A6 μ) s.heap s.heap [] := va_S.rf
  have hl := lv_entry ([.ref (μ 0)]) (n := 4) (Nat.le_of_ble_eq_true rfl)
  rw [lg_entry_eq]
  generalize (lg_sl ([.ref (μ 0)]) ++ List.replicate (4 - (lg_sl ([.ref (μ 0)])).length) Slot.unset).toArray = ls at hl ⊢
  have hl : lv_has ls 4 [(0, .ref (μ 0))] := hl
  refine lv_aload_n hx hb dX6_tick_0 rfl (lv_at hl 0 rfl) ?_
  refine dp_Vi hF hK hN (c_X6_frequency l D G μ R S N E P B L1 L2 L3 sm kp th la ln sp od hs  _ hμ hM hwz) (cwV 0 hts gX6_tick_X6_frequency rfl rfl rfl (by decide +kernel) ⟨Nat.le_of_ble_eq_true rfl, Nat.le_of_ble_eq_true rfl⟩) (dp_recv hK hM.1 rfl) hS nA_i [] rfl rfl hl.1 (Nat.le_of_ble_eq_true rfl) dX6_tick_1 ⟨Nat.le_of_ble_eq_true rfl, Nat.le_of_ble_eq_true rfl⟩ (fun rH1 H1 locs hp hzH1 hkH1 hS => ?_)
  obtain ⟨rfl, rfl⟩ := hp
  refine lv_istore_n (lv' := [(1, .int (fq R)), (0, .ref (μ 0))]) hx hb dX6_tick_4 rfl hl (by decide) rfl (fun ls hl => ?_)
  refine lv_aload_n hx hb dX6_tick_5 rfl (lv_at hl 1 rfl) ?_
  refine dp_Vi hF hK hN (c_X6_isAlive l D G μ R S N E P B L1 L2 L3 sm kp th la ln sp od hs  _ hμ hM hwz.1) (cwV 0 hts gX6_tick_X6_isAlive rfl rfl rfl (by decide +kernel) ⟨Nat.le_of_ble_eq_true rfl, Nat.le_of_ble_eq_true rfl⟩) (dp_recv hK hM.1 rfl) hS nA_i [] rfl rfl hl.1 (Nat.le_of_ble_eq_true rfl) dX6_tick_6 ⟨Nat.le_of_ble_eq_true rfl, Nat.le_of_ble_eq_true rfl⟩ (fun rH2 H2 locs hp hzH2 hkH2 hS => ?_)
  obtain ⟨rfl, rfl⟩ := hp
  refine lv_istore_n (lv' := [(2, .int (alv R)), (1, .int (fq R)), (0, .ref (μ 0))]) hx hb dX6_tick_9 rfl hl (by decide) rfl (fun ls hl => ?_)
  refine lv_aload_n hx hb dX6_tick_10 rfl (lv_at hl 2 rfl) ?_
  refine dp_Vv hF hK hN (c_X6_find l D G μ R S N E P B L1 L2 L3 sm kp th la ln sp od hs _ hμ hM hwz) (cwV 0 hts gX6_tick_X6_find rfl rfl rfl (by decide +kernel) ⟨Nat.le_of_ble_eq_true rfl, Nat.le_of_ble_eq_true rfl⟩) (dp_recv hK hM.1 rfl) hS (fun q hq => hq) [] rfl rfl hl.1 (Nat.le_of_ble_eq_true rfl) dX6_tick_11 ⟨Nat.le_of_ble_eq_true rfl, Nat.le_of_ble_eq_true rfl⟩ (fun H3 locs hp hzH3 hkH3 hS => ?_)
  obtain ⟨P, hP, hM⟩ := hp
  refine lv_aload_n hx hb dX6_tick_14 rfl (lv_at hl 2 rfl) ?_
  refine dp_get hx hb hts (dp_hin 65 rfl) hown hK hM.1 rfl 0 (by decide) (hts (.fieldLink RX6 7 "DroopBoardModel" "row" "[I") (List.mem_of_getElem? (i := 1) rfl)) rfl dX6_tick_15 ?_
  refine lv_iconst (v := 4) hx hb dX6_tick_18 (by decide) ?_
  refine lv_dup2_11 hx hb dX6_tick_19 rfl rfl ?_
  refine dp_iald hx hb hK hM.2.1 0 rfl 4 rfl (by decide) (by decide) dX6_tick_20 ?_
  refine lv_iconst (v := 1) hx hb dX6_tick_21 (by decide) ?_
  refine lv_iadd hx hb dX6_tick_22 ?_
  refine dp_iast (A := A6 μ) hx hb hK hM.2.1 (⟨1, by decide, rfl⟩ : A6 μ (μ 1)) hS 0 rfl 4 rfl (by decide) (by decide) dX6_tick_23 (fun H4 locs hH4 hzH4 hkH4 hS => ?_)
  have hM := hM.a1 (X' := upd R 4 ((R 4) + 1)) hμ hH4 hkH4
  refine lv_aload_n hx hb dX6_tick_24 rfl (lv_at hl 2 rfl) ?_
  refine dp_get hx hb hts (dp_hin 65 rfl) hown hK hM.1 rfl 0 (by decide) (hts (.fieldLink RX6 7 "DroopBoardModel" "row" "[I") (List.mem_of_getElem? (i := 1) rfl)) rfl dX6_tick_25 ?_
  refine lv_bipush (v := 7) hx hb dX6_tick_28 (by decide) ?_
  refine lv_dup2_11 hx hb dX6_tick_30 rfl rfl ?_
  refine dp_iald hx hb hK hM.2.1 0 rfl 7 rfl (by decide) (by decide) dX6_tick_31 ?_
  have hwz4 : wz (upd R 4 (R 4 + 1)) := wz_lo (by decide) hwz
  refine lv_aload_n hx hb dX6_tick_32 rfl (lv_at hl 2 rfl) ?_
  refine dp_Vi hF hK hN (c_X6_load l D G μ (upd R 4 ((R 4) + 1)) S N E P B L1 L2 L3 sm kp th (lk R (fq R)) ln sp od hs  _ hμ hM hwz4) (cwV 0 hts gX6_tick_X6_load rfl rfl rfl (by decide +kernel) ⟨Nat.le_of_ble_eq_true rfl, Nat.le_of_ble_eq_true rfl⟩) (dp_recv hK hM.1 rfl) hS nA_i [.int ((upd R 4 ((R 4) + 1)) 7), .int 7, .ref (μ 1)] rfl rfl hl.1 (Nat.le_of_ble_eq_true rfl) dX6_tick_33 ⟨Nat.le_of_ble_eq_true rfl, Nat.le_of_ble_eq_true rfl⟩ (fun rH5 H5 locs hp hzH5 hkH5 hS => ?_)
  obtain ⟨rfl, rfl⟩ := hp
  refine lv_aload_n hx hb dX6_tick_36 rfl (lv_at hl 2 rfl) ?_
  refine dp_get hx hb hts (dp_hin 65 rfl) hown hK hM.1 rfl 8 (by decide) (hts (.fieldLink RX6 80 "DroopBoardModel" "lack" "I") (List.mem_of_getElem? (i := 2) rfl)) rfl dX6_tick_37 ?_
  refine lv_isub hx hb dX6_tick_40 ?_
  refine lv_iadd hx hb dX6_tick_41 ?_
  refine dp_iast (A := A6 μ) hx hb hK hM.2.1 (⟨1, by decide, rfl⟩ : A6 μ (μ 1)) hS 0 rfl 7 rfl (by decide) (by decide) dX6_tick_42 (fun H6 locs hH6 hzH6 hkH6 hS => ?_)
  have hM := hM.a1 (X' := upd (upd R 4 ((R 4) + 1)) 7 (((upd R 4 ((R 4) + 1)) 7) + ((ld (upd R 4 ((R 4) + 1))) - (lk R (fq R))))) hμ hH6 hkH6
  refine lv_iconst (v := 0) hx hb dX6_tick_43 (by decide) ?_
  refine lv_istore_n (lv' := [(3, .int 0), (2, .int (alv R)), (1, .int (fq R)), (0, .ref (μ 0))]) hx hb dX6_tick_44 rfl hl (by decide) rfl (fun ls hl => ?_)
  have hM4 := hM
  rw [tA_4] at hM4
  have loop45 : ∀ (m9 : Nat) (i : Nat) (Q9 : Nat → Int32) (Hh : Heap) (_ : i + m9 = 3) (_ : Q9 = upd (tbs R i) 4 (R 4 + 1)) (_ : bz Q9) (_ : MO D G μ Q9 S N E P B L1 L2 L3 sm kp th (lk R (fq R)) ln sp od hs Hh) (locs : List Loc) (_ : va_S (A6 μ) s.heap Hh locs) (ls : Array Slot) (_ : lv_has ls 4 [(0, .ref (μ 0)), (1, .int (fq R)), (2, .int (alv R)), (3, .int (nI i))]), W p l e (headSpec wsX6_tick ({ frames := 6, cells := 0, slots := 0, locals := 131 } : Room)).room s m ([.ref (μ 0)] : List Value).toArray below meth c Hh locs 0 0 (MQ below (QI (A6 μ) (fun r h => tkn R = r ∧ MP D G μ (tk R) S N E B L1 L2 L3 sm kp th ln sp od hs h)) ([.ref (μ 0)] : List Value).toArray s 0 0 (A6 μ)) (F0 m 45 ls []) := by
    intro m9
    induction m9 with
    | zero =>
      intro i Q9 Hh hin hQ hb9 hM locs hS ls hl
      rw [show i = 3 by omega] at hQ
      refine lv_iload_n hx hb dX6_tick_45 rfl (lv_at hl 3 rfl) ?_
      refine lv_iconst (v := 3) hx hb dX6_tick_46 (by decide) ?_
      refine lv_icmp_ge (tgt := 115) hx hb dX6_tick_47 (by decide) (fun c1 => ?_) (fun c1 => absurd (nI_le (a := 3) (b := i) (by omega) (by omega)) c1)
      refine lv_aload_n hx hb dX6_tick_115 rfl (lv_at hl 0 rfl) ?_
      refine dp_get hx hb hts (dp_hin 65 rfl) hown hK hM.1 rfl 8 (by decide) (hts (.fieldLink RX6 80 "DroopBoardModel" "lack" "I") (List.mem_of_getElem? (i := 2) rfl)) rfl dX6_tick_116 ?_
      refine lv_if_le (tgt := 126) hx hb dX6_tick_119 (by decide) (fun c2 => ?_) (fun c2 => ?_)
      · have hD9 : Q9 = tD R := by rw [hQ]; exact tD_0 c2
        refine lv_aload_n hx hb dX6_tick_126 rfl (lv_at hl 0 rfl) ?_
        refine dp_Vi hF hK hN (c_X6_trip l D G μ Q9 S N E P B L1 L2 L3 sm kp th (lk R (fq R)) ln sp od hs  _ hμ hM (by rw [hD9]; exact htz)) (cwV 0 hts gX6_tick_X6_trip rfl rfl rfl (by decide +kernel) ⟨Nat.le_of_ble_eq_true rfl, Nat.le_of_ble_eq_true rfl⟩) (dp_recv hK hM.1 rfl) hS (fun q hq => hq) [] rfl rfl hl.1 (Nat.le_of_ble_eq_true rfl) dX6_tick_127 ⟨Nat.le_of_ble_eq_true rfl, Nat.le_of_ble_eq_true rfl⟩ (fun rH7 H7 locs hp hzH7 hkH7 hS => ?_)
        obtain ⟨rfl, hM⟩ := hp
        exact W.iret hx hb hr (fun t ht hW => ⟨⟨trm Q9 3, H7, rfl, ⟨by rw [hD9]; rfl, P, lk R (fq R), by rw [hD9, tD_5] at hM; exact hM⟩, ht⟩, hS.F ht⟩) hS.2.2 dX6_tick_130
      refine lv_aload_n hx hb dX6_tick_122 rfl (lv_at hl 0 rfl) ?_
      refine dp_Vv hF hK hN (c_X6_shed l D G μ Q9 S N E P B L1 L2 L3 sm kp th (lk R (fq R)) ln sp od hs  _ hμ hM hb9) (cwV 0 hts gX6_tick_X6_shed rfl rfl rfl (by decide +kernel) ⟨Nat.le_of_ble_eq_true rfl, Nat.le_of_ble_eq_true rfl⟩) (dp_recv hK hM.1 rfl) hS (fun q hq => hq) [] rfl rfl hl.1 (Nat.le_of_ble_eq_true rfl) dX6_tick_123 ⟨Nat.le_of_ble_eq_true rfl, Nat.le_of_ble_eq_true rfl⟩ (fun H8 locs hp hzH8 hkH8 hS => ?_)
      have hM := hp
      have hD9 : shd Q9 = tD R := by rw [hQ]; exact tD_1 c2
      refine lv_aload_n hx hb dX6_tick_126 rfl (lv_at hl 0 rfl) ?_
      refine dp_Vi hF hK hN (c_X6_trip l D G μ (shd Q9) S N E P B L1 L2 L3 sm kp th (lk R (fq R)) ln sp od hs  _ hμ hM (by rw [hD9]; exact htz)) (cwV 0 hts gX6_tick_X6_trip rfl rfl rfl (by decide +kernel) ⟨Nat.le_of_ble_eq_true rfl, Nat.le_of_ble_eq_true rfl⟩) (dp_recv hK hM.1 rfl) hS (fun q hq => hq) [] rfl rfl hl.1 (Nat.le_of_ble_eq_true rfl) dX6_tick_127 ⟨Nat.le_of_ble_eq_true rfl, Nat.le_of_ble_eq_true rfl⟩ (fun rH9 H9 locs hp hzH9 hkH9 hS => ?_)
      obtain ⟨rfl, hM⟩ := hp
      exact W.iret hx hb hr (fun t ht hW => ⟨⟨trm (shd Q9) 3, H9, rfl, ⟨by rw [hD9]; rfl, P, lk R (fq R), by rw [hD9, tD_5] at hM; exact hM⟩, ht⟩, hS.F ht⟩) hS.2.2 dX6_tick_130
    | succ m9 ih45 =>
      intro i Q9 Hh hin hQ hb9 hM locs hS ls hl
      refine lv_iload_n hx hb dX6_tick_45 rfl (lv_at hl 3 rfl) ?_
      refine lv_iconst (v := 3) hx hb dX6_tick_46 (by decide) ?_
      refine lv_icmp_ge (tgt := 115) hx hb dX6_tick_47 (by decide) (fun c3 => absurd c3 (nI_ge (a := i) (b := 3) (by omega) (by omega))) (fun c3 => ?_)
      refine lv_aload_n hx hb dX6_tick_50 rfl (lv_at hl 0 rfl) ?_
      refine lv_iload_n hx hb dX6_tick_51 rfl (lv_at hl 3 rfl) ?_
      refine lv_bipush (v := 8) hx hb dX6_tick_52 (by decide) ?_
      refine lv_aload_n hx hb dX6_tick_54 rfl (lv_at hl 0 rfl) ?_
      refine lv_iload_n hx hb dX6_tick_55 rfl (lv_at hl 3 rfl) ?_
      refine lv_bipush (v := 8) hx hb dX6_tick_56 (by decide) ?_
      refine dp_Vi hF hK hN (c_X6_of l D G μ Q9 S N E P B L1 L2 L3 sm kp th (lk R (fq R)) ln sp od hs i 8 16 _ hμ hM (by omega) (by decide) rfl) (cwV 2 hts gX6_tick_X6_of rfl rfl rfl (by decide +kernel) ⟨Nat.le_of_ble_eq_true rfl, Nat.le_of_ble_eq_true rfl⟩) (dp_recv hK hM.1 rfl) hS nA_i [.int 8, .int (nI i), .ref (μ 0)] rfl rfl hl.1 (Nat.le_of_ble_eq_true rfl) dX6_tick_58 ⟨Nat.le_of_ble_eq_true rfl, Nat.le_of_ble_eq_true rfl⟩ (fun rH10 H10 locs hp hzH10 hkH10 hS => ?_)
      obtain ⟨rfl, rfl⟩ := hp
      refine lv_aload_n hx hb dX6_tick_61 rfl (lv_at hl 0 rfl) ?_
      refine dp_get hx hb hts (dp_hin 65 rfl) hown hK hM.1 rfl 7 (by decide) (hts (.fieldLink RX6 22 "DroopBoardModel" "powers" "[I") (List.mem_of_getElem? (i := 3) rfl)) rfl dX6_tick_62 ?_
      refine lv_iload_n hx hb dX6_tick_65 rfl (lv_at hl 3 rfl) ?_
      refine dp_iald hx hb hK hM.2.2.2.2.2.1 0 rfl i rfl (by omega) (by decide) dX6_tick_66 ?_
      refine lv_iadd hx hb dX6_tick_67 ?_
      refine dp_Vv hF hK hN (c_X6_put l D G μ Q9 S N E P B L1 L2 L3 sm kp th (lk R (fq R)) ln sp od hs i 8 16 ((Q9 (16 + 10 * i)) + (P i)) _ hμ hM (by omega) (by decide) rfl) (cwV 3 hts gX6_tick_X6_put rfl rfl rfl (by decide +kernel) ⟨Nat.le_of_ble_eq_true rfl, Nat.le_of_ble_eq_true rfl⟩) (dp_recv hK hM.1 rfl) hS (fun q hq => hq) [] rfl rfl hl.1 (Nat.le_of_ble_eq_true rfl) dX6_tick_68 ⟨Nat.le_of_ble_eq_true rfl, Nat.le_of_ble_eq_true rfl⟩ (fun H11 locs hp hzH11 hkH11 hS => ?_)
      have hM := hp
      refine lv_aload_n hx hb dX6_tick_71 rfl (lv_at hl 0 rfl) ?_
      refine lv_iload_n hx hb dX6_tick_72 rfl (lv_at hl 3 rfl) ?_
      refine lv_iconst (v := 4) hx hb dX6_tick_73 (by decide) ?_
      refine dp_Vi hF hK hN (c_X6_of l D G μ (upd Q9 (16 + 10 * i) ((Q9 (16 + 10 * i)) + (P i))) S N E P B L1 L2 L3 sm kp th (lk R (fq R)) ln sp od hs i 4 12 _ hμ hM (by omega) (by decide) rfl) (cwV 2 hts gX6_tick_X6_of rfl rfl rfl (by decide +kernel) ⟨Nat.le_of_ble_eq_true rfl, Nat.le_of_ble_eq_true rfl⟩) (dp_recv hK hM.1 rfl) hS nA_i [] rfl rfl hl.1 (Nat.le_of_ble_eq_true rfl) dX6_tick_74 ⟨Nat.le_of_ble_eq_true rfl, Nat.le_of_ble_eq_true rfl⟩ (fun rH12 H12 locs hp hzH12 hkH12 hS => ?_)
      obtain ⟨rfl, rfl⟩ := hp
      refine lv_iconst (v := 1) hx hb dX6_tick_77 (by decide) ?_
      refine lv_icmp_ne (tgt := 89) hx hb dX6_tick_78 (by decide) (fun c4 => ?_) (fun c4 => ?_)
      · refine lv_aload_n hx hb dX6_tick_89 rfl (lv_at hl 0 rfl) ?_
        refine lv_iload_n hx hb dX6_tick_90 rfl (lv_at hl 3 rfl) ?_
        refine lv_iconst (v := 3) hx hb dX6_tick_91 (by decide) ?_
        refine dp_Vi hF hK hN (c_X6_of l D G μ (upd Q9 (16 + 10 * i) ((Q9 (16 + 10 * i)) + (P i))) S N E P B L1 L2 L3 sm kp th (lk R (fq R)) ln sp od hs i 3 11 _ hμ hM (by omega) (by decide) rfl) (cwV 2 hts gX6_tick_X6_of rfl rfl rfl (by decide +kernel) ⟨Nat.le_of_ble_eq_true rfl, Nat.le_of_ble_eq_true rfl⟩) (dp_recv hK hM.1 rfl) hS nA_i [] rfl rfl hl.1 (Nat.le_of_ble_eq_true rfl) dX6_tick_92 ⟨Nat.le_of_ble_eq_true rfl, Nat.le_of_ble_eq_true rfl⟩ (fun rH13 H13 locs hp hzH13 hkH13 hS => ?_)
        obtain ⟨rfl, rfl⟩ := hp
        refine lv_iconst (v := 1) hx hb dX6_tick_95 (by decide) ?_
        refine lv_icmp_ne (tgt := 109) hx hb dX6_tick_96 (by decide) (fun c5 => ?_) (fun c5 => ?_)
        · refine lv_iinc (v := nI (i + 1)) (lv' := [(3, .int (nI (i + 1))), (0, .ref (μ 0)), (1, .int (fq R)), (2, .int (alv R))]) hx hb dX6_tick_109 hl (k := 3) rfl (nI_1 i) (by decide) rfl (fun ls hl => ?_)
          refine lv_goto (tgt := 45) hx hb dX6_tick_112 (by decide) ?_
          exact ih45 (i + 1) (dtk Q9 i (P i) (fq R)) H11 (by omega) (by rw [hP i (by omega), hQ]; exact tbs_1) (dtk_bz hb9 (by omega)) (by rw [← (dtk_n hb9 (by omega) c4 (Or.inl c5) rfl)]; exact hM) _ hS _ (lv_sub hl [1, 2, 3, 0] rfl)
        refine lv_iload_n hx hb dX6_tick_99 rfl (lv_at hl 2 rfl) ?_
        refine lv_if_eq (tgt := 109) hx hb dX6_tick_100 (by decide) (fun c6 => ?_) (fun c6 => ?_)
        · refine lv_iinc (v := nI (i + 1)) (lv' := [(3, .int (nI (i + 1))), (0, .ref (μ 0)), (1, .int (fq R)), (2, .int (alv R))]) hx hb dX6_tick_109 hl (k := 3) rfl (nI_1 i) (by decide) rfl (fun ls hl => ?_)
          refine lv_goto (tgt := 45) hx hb dX6_tick_112 (by decide) ?_
          exact ih45 (i + 1) (dtk Q9 i (P i) (fq R)) H11 (by omega) (by rw [hP i (by omega), hQ]; exact tbs_1) (dtk_bz hb9 (by omega)) (by rw [← (dtk_n hb9 (by omega) c4 (Or.inr (fq_a0 c6)) rfl)]; exact hM) _ hS _ (lv_sub hl [1, 2, 3, 0] rfl)
        refine lv_aload_n hx hb dX6_tick_103 rfl (lv_at hl 0 rfl) ?_
        refine lv_iload_n hx hb dX6_tick_104 rfl (lv_at hl 3 rfl) ?_
        refine lv_iload_n hx hb dX6_tick_105 rfl (lv_at hl 1 rfl) ?_
        refine dp_Vv hF hK hN (c_X6_turn l D G μ (upd Q9 (16 + 10 * i) ((Q9 (16 + 10 * i)) + (P i))) S N E P B L1 L2 L3 sm kp th (lk R (fq R)) ln sp od hs i (fq R) _ hμ hM (by omega)) (cwV 2 hts gX6_tick_X6_turn rfl rfl rfl (by decide +kernel) ⟨Nat.le_of_ble_eq_true rfl, Nat.le_of_ble_eq_true rfl⟩) (dp_recv hK hM.1 rfl) hS (fun q hq => hq) [] rfl rfl hl.1 (Nat.le_of_ble_eq_true rfl) dX6_tick_106 ⟨Nat.le_of_ble_eq_true rfl, Nat.le_of_ble_eq_true rfl⟩ (fun H14 locs hp hzH14 hkH14 hS => ?_)
        have hM := hp
        refine lv_iinc (v := nI (i + 1)) (lv' := [(3, .int (nI (i + 1))), (0, .ref (μ 0)), (1, .int (fq R)), (2, .int (alv R))]) hx hb dX6_tick_109 hl (k := 3) rfl (nI_1 i) (by decide) rfl (fun ls hl => ?_)
        refine lv_goto (tgt := 45) hx hb dX6_tick_112 (by decide) ?_
        exact ih45 (i + 1) (dtk Q9 i (P i) (fq R)) H14 (by omega) (by rw [hP i (by omega), hQ]; exact tbs_1) (dtk_bz hb9 (by omega)) (by rw [← (dtk_t hb9 (by omega) c4 c5 (fq_a1 c6) rfl)]; exact hM) _ hS _ (lv_sub hl [1, 2, 3, 0] rfl)
      refine lv_aload_n hx hb dX6_tick_81 rfl (lv_at hl 0 rfl) ?_
      refine lv_iload_n hx hb dX6_tick_82 rfl (lv_at hl 3 rfl) ?_
      refine dp_Vv hF hK hN (c_X6_watch l D G μ (upd Q9 (16 + 10 * i) ((Q9 (16 + 10 * i)) + (P i))) S N E P B L1 L2 L3 sm kp th (lk R (fq R)) ln sp od hs i _ hμ hM (by omega)) (cwV 1 hts gX6_tick_X6_watch rfl rfl rfl (by decide +kernel) ⟨Nat.le_of_ble_eq_true rfl, Nat.le_of_ble_eq_true rfl⟩) (dp_recv hK hM.1 rfl) hS (fun q hq => hq) [] rfl rfl hl.1 (Nat.le_of_ble_eq_true rfl) dX6_tick_83 ⟨Nat.le_of_ble_eq_true rfl, Nat.le_of_ble_eq_true rfl⟩ (fun H15 locs hp hzH15 hkH15 hS => ?_)
      have hM := hp
      refine lv_goto (tgt := 109) hx hb dX6_tick_86 (by decide) ?_
      refine lv_iinc (v := nI (i + 1)) (lv' := [(3, .int (nI (i + 1))), (0, .ref (μ 0)), (1, .int (fq R)), (2, .int (alv R))]) hx hb dX6_tick_109 hl (k := 3) rfl (nI_1 i) (by decide) rfl (fun ls hl => ?_)
      refine lv_goto (tgt := 45) hx hb dX6_tick_112 (by decide) ?_
      exact ih45 (i + 1) (dtk Q9 i (P i) (fq R)) H15 (by omega) (by rw [hP i (by omega), hQ]; exact tbs_1) (dtk_bz hb9 (by omega)) (by rw [← (dtk_w c4 rfl)]; exact hM) _ hS _ (lv_sub hl [1, 2, 3, 0] rfl)
  exact loop45 3 0 (upd (tbs R 0) 4 (R 4 + 1)) H6 rfl rfl (by rw [← tA_4]; exact bz_lo (by decide) (bz_lo (by decide) hwz.1)) hM4 _ hS _ (lv_sub hl [3, 2, 1, 0] rfl)

set_option maxHeartbeats 600000 in
set_option maxRecDepth 100000 in
theorem c_X6_passNow (l : Launch) (D : va_G) (G : Nat → ClassId) (μ : Nat → Nat) (R S N E P B L1 L2 L3 : Nat → Int32) (sm kp th la ln sp od : Int32) (hs : Int64) (t9 : Nat) (H : Heap) (hμ : inj 10 μ) (hM : MO D G μ R S N E P B L1 L2 L3 sm kp th la ln sp od hs H) (ht : t9 < 1000) (htk : ∀ i, i < t9 → wz (pt R i) ∧ tz (tD (pt R i))) : Met l yX6_passNow wsX6_passNow ({ frames := 7, cells := 0, slots := 0, locals := 154 } : Room) (va_Pc [.ref (μ 0), .int (nI t9)] (CX D G H)) (QI (A6 μ) (fun r h => ptn R t9 = r ∧ MP D G μ (pt R t9) S N E B L1 L2 L3 sm kp th ln sp od hs h)) 0 0 (A6 μ) := by
  refine Met.ofW (cc := cX6_passNow) (maxL := 4) (ret := (some .int)) (by decide) rfl ?_
  intro p e s m args below meth c s₁ B0 hml hv
  obtain ⟨rfl, rfl, hK, hN⟩ := hv
  have hx := B0.exec
  have hb := B0.bytes
  have hr := B0.returns
  have hts := atoms_spec (ws := wsX6_passNow) B0.pre
  have hown : s.vm.findClass RX6 = some m.cls := findClass_of_methodNamed B0.named
  have hlocks := B0.notSynchronized
  have hF : CallFix p m c cX6_passNow 4 s ([.ref (μ 0), .int (nI t9)] : List Value).toArray wsX6_passNow RX6 := ⟨hx, hb, hml, hown, hts⟩
  have hS : va_S (A6 μ) s.heap s.heap [] := va_S.rf
  have hl := lv_entry ([.ref (μ 0), .int (nI t9)]) (n := 4) (Nat.le_of_ble_eq_true rfl)
  rw [lg_entry_eq]
  generalize (lg_sl ([.ref (μ 0), .int (nI t9)]) ++ List.replicate (4 - (lg_sl ([.ref (μ 0), .int (nI t9)])).length) Slot.unset).toArray = ls at hl ⊢
  have hl : lv_has ls 4 [(0, .ref (μ 0)), (1, .int (nI t9))] := hl
  refine lv_iconst (v := 0) hx hb dX6_passNow_0 (by decide) ?_
  refine lv_istore_n (lv' := [(2, .int 0), (0, .ref (μ 0)), (1, .int (nI t9))]) hx hb dX6_passNow_1 rfl hl (by decide) rfl (fun ls hl => ?_)
  refine lv_iconst (v := 0) hx hb dX6_passNow_2 (by decide) ?_
  refine lv_istore_n (lv' := [(3, .int 0), (2, .int 0), (0, .ref (μ 0)), (1, .int (nI t9))]) hx hb dX6_passNow_3 rfl hl (by decide) rfl (fun ls hl => ?_)
  have loop4 : ∀ (m9 : Nat) (i : Nat) (acc : Int32) (Hh : Heap) (_ : i + m9 = t9) (_ : acc = ptn R i) (_ : MP D G μ (pt R i) S N E B L1 L2 L3 sm kp th ln sp od hs Hh) (locs : List Loc) (_ : va_S (A6 μ) s.heap Hh locs) (ls : Array Slot) (_ : lv_has ls 4 [(0, .ref (μ 0)), (1, .int (nI t9)), (2, .int acc), (3, .int (nI i))]), W p l e (headSpec wsX6_passNow ({ frames := 7, cells := 0, slots := 0, locals := 154 } : Room)).room s m ([.ref (μ 0), .int (nI t9)] : List Value).toArray below meth c Hh locs 0 0 (MQ below (QI (A6 μ) (fun r h => ptn R t9 = r ∧ MP D G μ (pt R t9) S N E B L1 L2 L3 sm kp th ln sp od hs h)) ([.ref (μ 0), .int (nI t9)] : List Value).toArray s 0 0 (A6 μ)) (F0 m 4 ls []) := by
    intro m9
    induction m9 with
    | zero =>
      intro i acc Hh hin hacc hMP locs hS ls hl
      obtain ⟨P, la, hM⟩ := hMP
      refine lv_iload_n hx hb dX6_passNow_4 rfl (lv_at hl 3 rfl) ?_
      refine lv_iload_n hx hb dX6_passNow_5 rfl (lv_at hl 1 rfl) ?_
      refine lv_icmp_ge (tgt := 22) hx hb dX6_passNow_6 (by decide) (fun c1 => ?_) (fun c1 => absurd (nI_le (a := t9) (b := i) (by omega) (by omega)) c1)
      refine lv_iload_n hx hb dX6_passNow_22 rfl (lv_at hl 2 rfl) ?_
      exact W.iret hx hb hr (fun t ht hW => ⟨⟨acc, Hh, rfl, ⟨by rw [hacc, show i = t9 by omega], P, la, by rw [show t9 = i by omega]; exact hM⟩, ht⟩, hS.F ht⟩) hS.2.2 dX6_passNow_23
    | succ m9 ih4 =>
      intro i acc Hh hin hacc hMP locs hS ls hl
      obtain ⟨P, la, hM⟩ := hMP
      refine lv_iload_n hx hb dX6_passNow_4 rfl (lv_at hl 3 rfl) ?_
      refine lv_iload_n hx hb dX6_passNow_5 rfl (lv_at hl 1 rfl) ?_
      refine lv_icmp_ge (tgt := 22) hx hb dX6_passNow_6 (by decide) (fun c2 => absurd c2 (nI_ge (a := i) (b := t9) (by omega) (by omega))) (fun c2 => ?_)
      refine lv_iload_n hx hb dX6_passNow_9 rfl (lv_at hl 2 rfl) ?_
      refine lv_aload_n hx hb dX6_passNow_10 rfl (lv_at hl 0 rfl) ?_
      refine dp_Vi hF hK hN (c_X6_tick l D G μ (pt R i) S N E P B L1 L2 L3 sm kp th la ln sp od hs  _ hμ hM (htk i (by omega)).1 (htk i (by omega)).2) (cwV 0 hts gX6_passNow_X6_tick rfl rfl rfl (by decide +kernel) ⟨Nat.le_of_ble_eq_true rfl, Nat.le_of_ble_eq_true rfl⟩) (dp_recv hK hM.1 rfl) hS (fun q hq => hq) [.int acc] rfl rfl hl.1 (Nat.le_of_ble_eq_true rfl) dX6_passNow_11 ⟨Nat.le_of_ble_eq_true rfl, Nat.le_of_ble_eq_true rfl⟩ (fun rH1 H1 locs hp hzH1 hkH1 hS => ?_)
      obtain ⟨rfl, P, la, hM⟩ := hp
      refine lv_iadd hx hb dX6_passNow_14 ?_
      refine lv_istore_n (lv' := [(2, .int (acc + (tkn (pt R i)))), (0, .ref (μ 0)), (1, .int (nI t9)), (3, .int (nI i))]) hx hb dX6_passNow_15 rfl hl (by decide) rfl (fun ls hl => ?_)
      refine lv_iinc (v := nI (i + 1)) (lv' := [(3, .int (nI (i + 1))), (2, .int (acc + (tkn (pt R i)))), (0, .ref (μ 0)), (1, .int (nI t9))]) hx hb dX6_passNow_16 hl (k := 3) rfl (nI_1 i) (by decide) rfl (fun ls hl => ?_)
      refine lv_goto (tgt := 4) hx hb dX6_passNow_19 (by decide) ?_
      exact ih4 (i + 1) (acc + (tkn (pt R i))) H1 (by omega) (by rw [hacc]; rfl) ⟨_, _, hM⟩ _ hS _ (lv_sub hl [2, 3, 1, 0] rfl)
  exact loop4 t9 0 0 s.heap (by omega) rfl ⟨_, _, hM⟩ _ hS _ (lv_sub hl [2, 3, 1, 0] rfl)
