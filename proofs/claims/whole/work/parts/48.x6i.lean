set_option maxHeartbeats 600000 in
set_option maxRecDepth 100000 in
theorem c_X6_mixSet (l : Launch) (D : va_G) (G : Nat → ClassId) (μ : Nat → Nat) (R S N E P B L1 L2 L3 : Nat → Int32) (sm kp th la ln sp od : Int32) (hs : Int64) (j : Nat) (H : Heap) (hμ : inj 10 μ) (hM : MO D G μ R S N E P B L1 L2 L3 sm kp th la ln sp od hs H) (hwz : wz R) (hj : j < 3) (hw5 : wz (usp R j 5050)) (htk : ∀ i, i ≤ 500 → wz (pt R i) ∧ tz (tD (pt R i))) (hrt0 : ¬ R (12 + 10 * j) = 0 → ¬ rat R 3 = 0) (hwv : ∀ k, k ≤ 600 → wz (usp R j (nI (4700 + k)))) : Met l yX6_mixSet wsX6_mixSet ({ frames := 9, cells := 0, slots := 0, locals := 204 } : Room) (va_Pc [.ref (μ 0), .int (nI j)] (CX D G H)) (QV (A6 μ) (fun h => MP D G μ R S N R B L1 L2 L3 sm kp th ln sp od (mws R j hs) h)) 0 0 (A6 μ) := by
  refine Met.ofW (cc := cX6_mixSet) (maxL := 3) (ret := none) (by decide) rfl ?_
  intro p e s m args below meth c s₁ B0 hml hv
  obtain ⟨rfl, rfl, hK, hN⟩ := hv
  have hx := B0.exec
  have hb := B0.bytes
  have hr := B0.returns
  have hts := atoms_spec (ws := wsX6_mixSet) B0.pre
  have hown : s.vm.findClass RX6 = some m.cls := findClass_of_methodNamed B0.named
  have hlocks := B0.notSynchronized
  have hF : CallFix p m c cX6_mixSet 3 s ([.ref (μ 0), .int (nI j)] : List Value).toArray wsX6_mixSet RX6 := ⟨hx, hb, hml, hown, hts⟩
  have hS : va_S (A6 μ) s.heap s.heap [] := va_S.rf
  have hl := lv_entry ([.ref (μ 0), .int (nI j)]) (n := 3) (Nat.le_of_ble_eq_true rfl)
  rw [lg_entry_eq]
  generalize (lg_sl ([.ref (μ 0), .int (nI j)]) ++ List.replicate (3 - (lg_sl ([.ref (μ 0), .int (nI j)])).length) Slot.unset).toArray = ls at hl ⊢
  have hl : lv_has ls 3 [(0, .ref (μ 0)), (1, .int (nI j))] := hl
  refine lv_iconst (v := 0) hx hb dX6_mixSet_0 (by decide) ?_
  refine lv_istore_n (lv' := [(2, .int 0), (0, .ref (μ 0)), (1, .int (nI j))]) hx hb dX6_mixSet_1 rfl hl (by decide) rfl (fun ls hl => ?_)
  have loop2 : ∀ (m9 : Nat) (i : Nat) (Hh : Heap) (_ : i + m9 = 13) (_ : MP D G μ R S N E B L1 L2 L3 sm kp th ln sp od (fo (fun k => tset R j (nI k)) i hs) Hh) (locs : List Loc) (_ : va_S (A6 μ) s.heap Hh locs) (ls : Array Slot) (_ : lv_has ls 3 [(0, .ref (μ 0)), (1, .int (nI j)), (2, .int (nI i))]), W p l e (headSpec wsX6_mixSet ({ frames := 9, cells := 0, slots := 0, locals := 204 } : Room)).room s m ([.ref (μ 0), .int (nI j)] : List Value).toArray below meth c Hh locs 0 0 (MQ below (QV (A6 μ) (fun h => MP D G μ R S N R B L1 L2 L3 sm kp th ln sp od (mws R j hs) h)) ([.ref (μ 0), .int (nI j)] : List Value).toArray s 0 0 (A6 μ)) (F0 m 2 ls []) := by
    intro m9
    induction m9 with
    | zero =>
      intro i Hh hini hMPi locs hS ls hl
      obtain ⟨P, la, hM⟩ := hMPi
      obtain rfl : i = 13 := by omega
      refine lv_iload_n hx hb dX6_mixSet_2 rfl (lv_at hl 2 rfl) ?_
      refine lv_bipush (v := 13) hx hb dX6_mixSet_3 (by decide) ?_
      refine lv_icmp_ge (tgt := 25) hx hb dX6_mixSet_5 (by decide) (fun c1 => ?_) (fun c1 => absurd (nI_le (a := 13) (b := 13) (by omega) (by omega)) c1)
      refine lv_iconst (v := 0) hx hb dX6_mixSet_25 (by decide) ?_
      refine lv_istore_n (lv' := [(2, .int 0), (0, .ref (μ 0)), (1, .int (nI j))]) hx hb dX6_mixSet_26 rfl hl (by decide) rfl (fun ls hl => ?_)
      have loop27 : ∀ (m8 : Nat) (i2 : Nat) (Hh : Heap) (_ : i2 + m8 = 3) (_ : MP D G μ R S N E B L1 L2 L3 sm kp th ln sp od (fo (fun k => tif R j 5050 (nI k)) i2 (fo (fun k => tset R j (nI k)) 13 hs)) Hh) (locs : List Loc) (_ : va_S (A6 μ) s.heap Hh locs) (ls : Array Slot) (_ : lv_has ls 3 [(0, .ref (μ 0)), (1, .int (nI j)), (2, .int (nI i2))]), W p l e (headSpec wsX6_mixSet ({ frames := 9, cells := 0, slots := 0, locals := 204 } : Room)).room s m ([.ref (μ 0), .int (nI j)] : List Value).toArray below meth c Hh locs 0 0 (MQ below (QV (A6 μ) (fun h => MP D G μ R S N R B L1 L2 L3 sm kp th ln sp od (mws R j hs) h)) ([.ref (μ 0), .int (nI j)] : List Value).toArray s 0 0 (A6 μ)) (F0 m 27 ls []) := by
        intro m8
        induction m8 with
        | zero =>
          intro i2 Hh hini2 hMPi2 locs hS ls hl
          obtain ⟨P, la, hM⟩ := hMPi2
          obtain rfl : i2 = 3 := by omega
          refine lv_iload_n hx hb dX6_mixSet_27 rfl (lv_at hl 2 rfl) ?_
          refine lv_iconst (v := 3) hx hb dX6_mixSet_28 (by decide) ?_
          refine lv_icmp_ge (tgt := 52) hx hb dX6_mixSet_29 (by decide) (fun c2 => ?_) (fun c2 => absurd (nI_le (a := 3) (b := 3) (by omega) (by omega)) c2)
          refine lv_aload_n hx hb dX6_mixSet_52 rfl (lv_at hl 0 rfl) ?_
          refine lv_aload_n hx hb dX6_mixSet_53 rfl (lv_at hl 0 rfl) ?_
          refine lv_iload_n hx hb dX6_mixSet_54 rfl (lv_at hl 1 rfl) ?_
          refine dp_Vi hF hK hN (c_X6_closableIn l D G μ R S N E P B L1 L2 L3 sm kp th la ln sp od (fo (fun k => tif R j 5050 (nI k)) 3 (fo (fun k => tset R j (nI k)) 13 hs)) j _ hμ hM hj htk) (cwV 1 hts gX6_mixSet_X6_closableIn rfl rfl rfl (by decide +kernel) ⟨Nat.le_of_ble_eq_true rfl, Nat.le_of_ble_eq_true rfl⟩) (dp_recv hK hM.1 rfl) hS (fun q hq => hq) [.ref (μ 0)] rfl rfl hl.1 (Nat.le_of_ble_eq_true rfl) dX6_mixSet_55 ⟨Nat.le_of_ble_eq_true rfl, Nat.le_of_ble_eq_true rfl⟩ (fun rH1 H1 locs hp hzH1 hkH1 hS => ?_)
          obtain ⟨rfl, P, la, hM⟩ := hp
          refine lv_i2l hx hb dX6_mixSet_58 rfl ?_
          refine dp_Vv hF hK hN (c_X6_mix l D G μ R S N R P B L1 L2 L3 sm kp th la ln sp od (fo (fun k => tif R j 5050 (nI k)) 3 (fo (fun k => tset R j (nI k)) 13 hs)) (Int32.toInt64 (cin R j)) _ hμ hM ) (cwV 1 hts gX6_mixSet_X6_mix rfl rfl rfl (by decide +kernel) ⟨Nat.le_of_ble_eq_true rfl, Nat.le_of_ble_eq_true rfl⟩) (dp_recv hK hM.1 rfl) hS (fun q hq => hq) [] rfl rfl hl.1 (Nat.le_of_ble_eq_true rfl) dX6_mixSet_59 ⟨Nat.le_of_ble_eq_true rfl, Nat.le_of_ble_eq_true rfl⟩ (fun H2 locs hp hzH2 hkH2 hS => ?_)
          have hM := hp
          refine lv_aload_n hx hb dX6_mixSet_62 rfl (lv_at hl 0 rfl) ?_
          refine lv_aload_n hx hb dX6_mixSet_63 rfl (lv_at hl 0 rfl) ?_
          refine lv_iload_n hx hb dX6_mixSet_64 rfl (lv_at hl 1 rfl) ?_
          refine dp_Vi hF hK hN (c_X6_fairFor l D G μ R S N R P B L1 L2 L3 sm kp th la ln sp od (31 * (fo (fun k => tif R j 5050 (nI k)) 3 (fo (fun k => tset R j (nI k)) 13 hs)) + (Int32.toInt64 (cin R j))) j _ hμ hM hwz hj hrt0 hwv) (cwV 1 hts gX6_mixSet_X6_fairFor rfl rfl rfl (by decide +kernel) ⟨Nat.le_of_ble_eq_true rfl, Nat.le_of_ble_eq_true rfl⟩) (dp_recv hK hM.1 rfl) hS (fun q hq => hq) [.ref (μ 0)] rfl rfl hl.1 (Nat.le_of_ble_eq_true rfl) dX6_mixSet_65 ⟨Nat.le_of_ble_eq_true rfl, Nat.le_of_ble_eq_true rfl⟩ (fun rH3 H3 locs hp hzH3 hkH3 hS => ?_)
          obtain ⟨rfl, P, la, hM⟩ := hp
          refine lv_i2l hx hb dX6_mixSet_68 rfl ?_
          refine dp_Vv hF hK hN (c_X6_mix l D G μ R S N R P B L1 L2 L3 sm kp th la ln sp od (31 * (fo (fun k => tif R j 5050 (nI k)) 3 (fo (fun k => tset R j (nI k)) 13 hs)) + (Int32.toInt64 (cin R j))) (Int32.toInt64 (fair R j)) _ hμ hM ) (cwV 1 hts gX6_mixSet_X6_mix rfl rfl rfl (by decide +kernel) ⟨Nat.le_of_ble_eq_true rfl, Nat.le_of_ble_eq_true rfl⟩) (dp_recv hK hM.1 rfl) hS (fun q hq => hq) [] rfl rfl hl.1 (Nat.le_of_ble_eq_true rfl) dX6_mixSet_69 ⟨Nat.le_of_ble_eq_true rfl, Nat.le_of_ble_eq_true rfl⟩ (fun H4 locs hp hzH4 hkH4 hS => ?_)
          have hM := hp
          exact W.vret hx hb hr (fun t ht hW => ⟨⟨H4, rfl, ⟨_, _, hM⟩, ht⟩, hS.F ht⟩) hS.2.2 dX6_mixSet_72
        | succ m8 ih27 =>
          intro i2 Hh hini2 hMPi2 locs hS ls hl
          obtain ⟨P, la, hM⟩ := hMPi2
          refine lv_iload_n hx hb dX6_mixSet_27 rfl (lv_at hl 2 rfl) ?_
          refine lv_iconst (v := 3) hx hb dX6_mixSet_28 (by decide) ?_
          refine lv_icmp_ge (tgt := 52) hx hb dX6_mixSet_29 (by decide) (fun c3 => absurd c3 (nI_ge (a := i2) (b := 3) (by omega) (by omega))) (fun c3 => ?_)
          refine lv_aload_n hx hb dX6_mixSet_32 rfl (lv_at hl 0 rfl) ?_
          refine lv_aload_n hx hb dX6_mixSet_33 rfl (lv_at hl 0 rfl) ?_
          refine lv_iload_n hx hb dX6_mixSet_34 rfl (lv_at hl 1 rfl) ?_
          refine lv_sipush (v := 5050) hx hb dX6_mixSet_35 (by decide) ?_
          refine lv_iload_n hx hb dX6_mixSet_38 rfl (lv_at hl 2 rfl) ?_
          refine dp_Vi hF hK hN (c_X6_withSpeed l D G μ R S N E P B L1 L2 L3 sm kp th la ln sp od (fo (fun k => tif R j 5050 (nI k)) i2 (fo (fun k => tset R j (nI k)) 13 hs)) j 5050 (nI i2) _ hμ hM hj hw5) (cwV 3 hts gX6_mixSet_X6_withSpeed rfl rfl rfl (by decide +kernel) ⟨Nat.le_of_ble_eq_true rfl, Nat.le_of_ble_eq_true rfl⟩) (dp_recv hK hM.1 rfl) hS (fun q hq => hq) [.ref (μ 0)] rfl rfl hl.1 (Nat.le_of_ble_eq_true rfl) dX6_mixSet_39 ⟨Nat.le_of_ble_eq_true rfl, Nat.le_of_ble_eq_true rfl⟩ (fun rH5 H5 locs hp hzH5 hkH5 hS => ?_)
          obtain ⟨rfl, P, la, hM⟩ := hp
          refine lv_i2l hx hb dX6_mixSet_42 rfl ?_
          refine dp_Vv hF hK hN (c_X6_mix l D G μ R S N E P B L1 L2 L3 sm kp th la ln sp od (fo (fun k => tif R j 5050 (nI k)) i2 (fo (fun k => tset R j (nI k)) 13 hs)) (Int32.toInt64 (tif R j 5050 (nI i2))) _ hμ hM ) (cwV 1 hts gX6_mixSet_X6_mix rfl rfl rfl (by decide +kernel) ⟨Nat.le_of_ble_eq_true rfl, Nat.le_of_ble_eq_true rfl⟩) (dp_recv hK hM.1 rfl) hS (fun q hq => hq) [] rfl rfl hl.1 (Nat.le_of_ble_eq_true rfl) dX6_mixSet_43 ⟨Nat.le_of_ble_eq_true rfl, Nat.le_of_ble_eq_true rfl⟩ (fun H6 locs hp hzH6 hkH6 hS => ?_)
          have hM := hp
          refine lv_iinc (v := nI (i2 + 1)) (lv' := [(2, .int (nI (i2 + 1))), (0, .ref (μ 0)), (1, .int (nI j))]) hx hb dX6_mixSet_46 hl (k := 2) rfl (nI_1 i2) (by decide) rfl (fun ls hl => ?_)
          refine lv_goto (tgt := 27) hx hb dX6_mixSet_49 (by decide) ?_
          exact ih27 (i2 + 1) H6 (by omega) ⟨_, _, hM⟩ _ hS _ (lv_sub hl [1, 2, 0] rfl)
      exact loop27 3 0 Hh rfl ⟨_, _, hM⟩ _ hS _ (lv_sub hl [1, 2, 0] rfl)
    | succ m9 ih2 =>
      intro i Hh hini hMPi locs hS ls hl
      obtain ⟨P, la, hM⟩ := hMPi
      refine lv_iload_n hx hb dX6_mixSet_2 rfl (lv_at hl 2 rfl) ?_
      refine lv_bipush (v := 13) hx hb dX6_mixSet_3 (by decide) ?_
      refine lv_icmp_ge (tgt := 25) hx hb dX6_mixSet_5 (by decide) (fun c4 => absurd c4 (nI_ge (a := i) (b := 13) (by omega) (by omega))) (fun c4 => ?_)
      refine lv_aload_n hx hb dX6_mixSet_8 rfl (lv_at hl 0 rfl) ?_
      refine lv_aload_n hx hb dX6_mixSet_9 rfl (lv_at hl 0 rfl) ?_
      refine lv_iload_n hx hb dX6_mixSet_10 rfl (lv_at hl 1 rfl) ?_
      refine lv_iload_n hx hb dX6_mixSet_11 rfl (lv_at hl 2 rfl) ?_
      refine dp_Vi hF hK hN (c_X6_ofDiesel l D G μ R S N E P B L1 L2 L3 sm kp th la ln sp od (fo (fun k => tset R j (nI k)) i hs) j (nI i) _ hμ hM hwz hj (nI_13 (i := i) (by omega))) (cwV 2 hts gX6_mixSet_X6_ofDiesel rfl rfl rfl (by decide +kernel) ⟨Nat.le_of_ble_eq_true rfl, Nat.le_of_ble_eq_true rfl⟩) (dp_recv hK hM.1 rfl) hS (fun q hq => hq) [.ref (μ 0)] rfl rfl hl.1 (Nat.le_of_ble_eq_true rfl) dX6_mixSet_12 ⟨Nat.le_of_ble_eq_true rfl, Nat.le_of_ble_eq_true rfl⟩ (fun rH7 H7 locs hp hzH7 hkH7 hS => ?_)
      obtain ⟨rfl, P, la, hM⟩ := hp
      refine lv_i2l hx hb dX6_mixSet_15 rfl ?_
      refine dp_Vv hF hK hN (c_X6_mix l D G μ R S N E P B L1 L2 L3 sm kp th la ln sp od (fo (fun k => tset R j (nI k)) i hs) (Int32.toInt64 (tset R j (nI i))) _ hμ hM ) (cwV 1 hts gX6_mixSet_X6_mix rfl rfl rfl (by decide +kernel) ⟨Nat.le_of_ble_eq_true rfl, Nat.le_of_ble_eq_true rfl⟩) (dp_recv hK hM.1 rfl) hS (fun q hq => hq) [] rfl rfl hl.1 (Nat.le_of_ble_eq_true rfl) dX6_mixSet_16 ⟨Nat.le_of_ble_eq_true rfl, Nat.le_of_ble_eq_true rfl⟩ (fun H8 locs hp hzH8 hkH8 hS => ?_)
      have hM := hp
      refine lv_iinc (v := nI (i + 1)) (lv' := [(2, .int (nI (i + 1))), (0, .ref (μ 0)), (1, .int (nI j))]) hx hb dX6_mixSet_19 hl (k := 2) rfl (nI_1 i) (by decide) rfl (fun ls hl => ?_)
      refine lv_goto (tgt := 2) hx hb dX6_mixSet_22 (by decide) ?_
      exact ih2 (i + 1) H8 (by omega) ⟨_, _, hM⟩ _ hS _ (lv_sub hl [1, 2, 0] rfl)
  exact loop2 13 0 s.heap rfl ⟨_, _, hM⟩ _ hS _ (lv_sub hl [1, 2, 0] rfl)

set_option maxHeartbeats 600000 in
set_option maxRecDepth 100000 in
theorem c_X6_clearBuffer (l : Launch) (D : va_G) (G : Nat → ClassId) (μ : Nat → Nat) (R S N E P B L1 L2 L3 : Nat → Int32) (sm kp th la ln sp od : Int32) (hs : Int64)  (H : Heap) (hμ : inj 10 μ) (hM : MO D G μ R S N E P B L1 L2 L3 sm kp th la ln sp od hs H) : Met l yX6_clearBuffer wsX6_clearBuffer ({ frames := 0, cells := 0, slots := 0, locals := 0 } : Room) (va_Pc [.ref (μ 0)] (CX D G H)) (QI (A6 μ) (fun r h => ln = r ∧ MO D G μ R S N E P B L1 L2 L3 sm kp 0 la 0 sp od hs h)) 0 0 (A6 μ) := by
  refine Met.ofW (cc := cX6_clearBuffer) (maxL := 2) (ret := (some .int)) (by decide) rfl ?_
  intro p e s m args below meth c s₁ B0 hml hv
  obtain ⟨rfl, rfl, hK, hN⟩ := hv
  have hx := B0.exec
  have hb := B0.bytes
  have hr := B0.returns
  have hts := atoms_spec (ws := wsX6_clearBuffer) B0.pre
  have hown : s.vm.findClass RX6 = some m.cls := findClass_of_methodNamed B0.named
  have hlocks := B0.notSynchronized
  have hF : CallFix p m c cX6_clearBuffer 2 s ([.ref (μ 0)] : List Value).toArray wsX6_clearBuffer RX6 := ⟨hx, hb, hml, hown, hts⟩
  have hS : va_S (A6 μ) s.heap s.heap [] := va_S.rf
  have hl := lv_entry ([.ref (μ 0)]) (n := 2) (Nat.le_of_ble_eq_true rfl)
  rw [lg_entry_eq]
  generalize (lg_sl ([.ref (μ 0)]) ++ List.replicate (2 - (lg_sl ([.ref (μ 0)])).length) Slot.unset).toArray = ls at hl ⊢
  have hl : lv_has ls 2 [(0, .ref (μ 0))] := hl
  refine lv_aload_n hx hb dX6_clearBuffer_0 rfl (lv_at hl 0 rfl) ?_
  refine lv_iconst (v := 0) hx hb dX6_clearBuffer_1 (by decide) ?_
  refine dp_put (A := A6 μ) (v := .int 0) hx hb hts (dp_hin 3 rfl) tyX6 tyX6_ok nmX6 hown hK hM.1 (⟨0, by decide, rfl⟩ : A6 μ (μ 0)) hS rfl 6 (by decide) (hts (.fieldLink RX6 41 "DroopBoardModel" "thrown" "I") (List.mem_of_getElem? (i := 1) rfl)) rfl rfl rfl (Nat.le_of_ble_eq_true rfl) dX6_clearBuffer_2 (fun H1 locs hH1 hzH1 hkH1 hS => ?_)
  have hM := hM.o (sm' := sm) (kp' := kp) (th' := 0) (la' := la) (ln' := ln) (sp' := sp) (od' := od) (hs' := hs) hμ hH1 hkH1
  refine lv_aload_n hx hb dX6_clearBuffer_5 rfl (lv_at hl 0 rfl) ?_
  refine dp_get hx hb hts (dp_hin 3 rfl) hown hK hM.1 rfl 10 (by decide) (hts (.fieldLink RX6 153 "DroopBoardModel" "length" "I") (List.mem_of_getElem? (i := 2) rfl)) rfl dX6_clearBuffer_6 ?_
  refine lv_istore_n (lv' := [(1, .int ln), (0, .ref (μ 0))]) hx hb dX6_clearBuffer_9 rfl hl (by decide) rfl (fun ls hl => ?_)
  refine lv_aload_n hx hb dX6_clearBuffer_10 rfl (lv_at hl 1 rfl) ?_
  refine lv_iconst (v := 0) hx hb dX6_clearBuffer_11 (by decide) ?_
  refine dp_put (A := A6 μ) (v := .int 0) hx hb hts (dp_hin 3 rfl) tyX6 tyX6_ok nmX6 hown hK hM.1 (⟨0, by decide, rfl⟩ : A6 μ (μ 0)) hS rfl 10 (by decide) (hts (.fieldLink RX6 153 "DroopBoardModel" "length" "I") (List.mem_of_getElem? (i := 2) rfl)) rfl rfl rfl (Nat.le_of_ble_eq_true rfl) dX6_clearBuffer_12 (fun H2 locs hH2 hzH2 hkH2 hS => ?_)
  have hM := hM.o (sm' := sm) (kp' := kp) (th' := 0) (la' := la) (ln' := 0) (sp' := sp) (od' := od) (hs' := hs) hμ hH2 hkH2
  refine lv_iload_n hx hb dX6_clearBuffer_15 rfl (lv_at hl 0 rfl) ?_
  exact W.iret hx hb hr (fun t ht hW => ⟨⟨ln, H2, rfl, ⟨rfl, hM⟩, ht⟩, hS.F ht⟩) hS.2.2 dX6_clearBuffer_16

set_option maxHeartbeats 600000 in
set_option maxRecDepth 100000 in
theorem c_X6_keep (l : Launch) (D : va_G) (G : Nat → ClassId) (μ : Nat → Nat) (R S N E P B L1 L2 L3 : Nat → Int32) (sm kp th la ln sp od : Int32) (hs : Int64)  (H : Heap) (hμ : inj 10 μ) (hM : MO D G μ R S N E P B L1 L2 L3 sm kp th la ln sp od hs H) : Met l yX6_keep wsX6_keep ({ frames := 0, cells := 0, slots := 0, locals := 0 } : Room) (va_Pc [.ref (μ 0)] (CX D G H)) (QI (A6 μ) (fun r h => R 4 = r ∧ MO D G μ R S R E P B L1 L2 L3 sm 1 0 la ln sp od hs h)) 0 0 (A6 μ) := by
  refine Met.ofW (cc := cX6_keep) (maxL := 2) (ret := (some .int)) (by decide) rfl ?_
  intro p e s m args below meth c s₁ B0 hml hv
  obtain ⟨rfl, rfl, hK, hN⟩ := hv
  have hx := B0.exec
  have hb := B0.bytes
  have hr := B0.returns
  have hts := atoms_spec (ws := wsX6_keep) B0.pre
  have hown : s.vm.findClass RX6 = some m.cls := findClass_of_methodNamed B0.named
  have hlocks := B0.notSynchronized
  have hF : CallFix p m c cX6_keep 2 s ([.ref (μ 0)] : List Value).toArray wsX6_keep RX6 := ⟨hx, hb, hml, hown, hts⟩
  have hS : va_S (A6 μ) s.heap s.heap [] := va_S.rf
  have hl := lv_entry ([.ref (μ 0)]) (n := 2) (Nat.le_of_ble_eq_true rfl)
  rw [lg_entry_eq]
  generalize (lg_sl ([.ref (μ 0)]) ++ List.replicate (2 - (lg_sl ([.ref (μ 0)])).length) Slot.unset).toArray = ls at hl ⊢
  have hl : lv_has ls 2 [(0, .ref (μ 0))] := hl
  refine lv_aload_n hx hb dX6_keep_0 rfl (lv_at hl 0 rfl) ?_
  refine lv_iconst (v := 0) hx hb dX6_keep_1 (by decide) ?_
  refine dp_put (A := A6 μ) (v := .int 0) hx hb hts (dp_hin 5 rfl) tyX6 tyX6_ok nmX6 hown hK hM.1 (⟨0, by decide, rfl⟩ : A6 μ (μ 0)) hS rfl 6 (by decide) (hts (.fieldLink RX6 41 "DroopBoardModel" "thrown" "I") (List.mem_of_getElem? (i := 1) rfl)) rfl rfl rfl (Nat.le_of_ble_eq_true rfl) dX6_keep_2 (fun H1 locs hH1 hzH1 hkH1 hS => ?_)
  have hM := hM.o (sm' := sm) (kp' := kp) (th' := 0) (la' := la) (ln' := ln) (sp' := sp) (od' := od) (hs' := hs) hμ hH1 hkH1
  refine lv_iconst (v := 0) hx hb dX6_keep_5 (by decide) ?_
  refine lv_istore_n (lv' := [(1, .int 0), (0, .ref (μ 0))]) hx hb dX6_keep_6 rfl hl (by decide) rfl (fun ls hl => ?_)
  have loop7 : ∀ (m9 : Nat) (i : Nat) (Hh : Heap) (_ : i + m9 = 50) (_ : MO D G μ R S (fst6 R N i) E P B L1 L2 L3 sm kp 0 la ln sp od hs Hh) (locs : List Loc) (_ : va_S (A6 μ) s.heap Hh locs) (ls : Array Slot) (_ : lv_has ls 2 [(0, .ref (μ 0)), (1, .int (nI i))]), W p l e (headSpec wsX6_keep ({ frames := 0, cells := 0, slots := 0, locals := 0 } : Room)).room s m ([.ref (μ 0)] : List Value).toArray below meth c Hh locs 0 0 (MQ below (QI (A6 μ) (fun r h => R 4 = r ∧ MO D G μ R S R E P B L1 L2 L3 sm 1 0 la ln sp od hs h)) ([.ref (μ 0)] : List Value).toArray s 0 0 (A6 μ)) (F0 m 7 ls []) := by
    intro m9
    induction m9 with
    | zero =>
      intro i Hh hin hM locs hS ls hl
      have hM := mo_congN hM (fun j hj => fst6_e (show j < i by omega))
      refine lv_iload_n hx hb dX6_keep_7 rfl (lv_at hl 1 rfl) ?_
      refine lv_bipush (v := 50) hx hb dX6_keep_8 (by decide) ?_
      refine lv_icmp_ge (tgt := 31) hx hb dX6_keep_10 (by decide) (fun c1 => ?_) (fun c1 => absurd (nI_le (a := 50) (b := i) (by omega) (by omega)) c1)
      refine lv_aload_n hx hb dX6_keep_31 rfl (lv_at hl 0 rfl) ?_
      refine lv_iconst (v := 1) hx hb dX6_keep_32 (by decide) ?_
      refine dp_put (A := A6 μ) (v := .int 1) hx hb hts (dp_hin 5 rfl) tyX6 tyX6_ok nmX6 hown hK hM.1 (⟨0, by decide, rfl⟩ : A6 μ (μ 0)) hS rfl 4 (by decide) (hts (.fieldLink RX6 189 "DroopBoardModel" "isKept" "Z") (List.mem_of_getElem? (i := 4) rfl)) rfl rfl rfl (Nat.le_of_ble_eq_true rfl) dX6_keep_33 (fun H2 locs hH2 hzH2 hkH2 hS => ?_)
      have hM := hM.o (sm' := sm) (kp' := 1) (th' := 0) (la' := la) (ln' := ln) (sp' := sp) (od' := od) (hs' := hs) hμ hH2 hkH2
      refine lv_aload_n hx hb dX6_keep_36 rfl (lv_at hl 0 rfl) ?_
      refine dp_get hx hb hts (dp_hin 5 rfl) hown hK hM.1 rfl 0 (by decide) (hts (.fieldLink RX6 7 "DroopBoardModel" "row" "[I") (List.mem_of_getElem? (i := 3) rfl)) rfl dX6_keep_37 ?_
      refine lv_iconst (v := 4) hx hb dX6_keep_40 (by decide) ?_
      refine dp_iald hx hb hK hM.2.1 0 rfl 4 rfl (by decide) (by decide) dX6_keep_41 ?_
      exact W.iret hx hb hr (fun t ht hW => ⟨⟨R 4, H2, rfl, ⟨rfl, hM⟩, ht⟩, hS.F ht⟩) hS.2.2 dX6_keep_42
    | succ m9 ih7 =>
      intro i Hh hin hM locs hS ls hl
      refine lv_iload_n hx hb dX6_keep_7 rfl (lv_at hl 1 rfl) ?_
      refine lv_bipush (v := 50) hx hb dX6_keep_8 (by decide) ?_
      refine lv_icmp_ge (tgt := 31) hx hb dX6_keep_10 (by decide) (fun c2 => absurd c2 (nI_ge (a := i) (b := 50) (by omega) (by omega))) (fun c2 => ?_)
      refine lv_aload_n hx hb dX6_keep_13 rfl (lv_at hl 0 rfl) ?_
      refine dp_get hx hb hts (dp_hin 5 rfl) hown hK hM.1 rfl 3 (by decide) (hts (.fieldLink RX6 16 "DroopBoardModel" "snapshot" "[I") (List.mem_of_getElem? (i := 2) rfl)) rfl dX6_keep_14 ?_
      refine lv_iload_n hx hb dX6_keep_17 rfl (lv_at hl 1 rfl) ?_
      refine lv_aload_n hx hb dX6_keep_18 rfl (lv_at hl 0 rfl) ?_
      refine dp_get hx hb hts (dp_hin 5 rfl) hown hK hM.1 rfl 0 (by decide) (hts (.fieldLink RX6 7 "DroopBoardModel" "row" "[I") (List.mem_of_getElem? (i := 3) rfl)) rfl dX6_keep_19 ?_
      refine lv_iload_n hx hb dX6_keep_22 rfl (lv_at hl 1 rfl) ?_
      refine dp_iald hx hb hK hM.2.1 0 rfl i rfl (by omega) (by decide) dX6_keep_23 ?_
      refine dp_iast (A := A6 μ) hx hb hK hM.2.2.2.1 (⟨3, by decide, rfl⟩ : A6 μ (μ 3)) hS 0 rfl i rfl (by omega) (by decide) dX6_keep_24 (fun H3 locs hH3 hzH3 hkH3 hS => ?_)
      have hM := hM.a3 (X' := upd (fst6 R N i) i (R i)) hμ hH3 hkH3
      refine lv_iinc (v := nI (i + 1)) (lv' := [(1, .int (nI (i + 1))), (0, .ref (μ 0))]) hx hb dX6_keep_25 hl (k := 1) rfl (nI_1 i) (by decide) rfl (fun ls hl => ?_)
      refine lv_goto (tgt := 7) hx hb dX6_keep_28 (by decide) ?_
      exact ih7 (i + 1) H3 (by omega) (by rw [← fst6_s]; exact hM) _ hS _ (lv_sub hl [1, 0] rfl)
  exact loop7 50 0 H1 rfl (by rw [fst6_0]; exact hM) _ hS _ (lv_sub hl [1, 0] rfl)
