set_option maxHeartbeats 600000 in
set_option maxRecDepth 100000 in
theorem c_X6_withSpeed (l : Launch) (D : va_G) (G : Nat → ClassId) (μ : Nat → Nat) (R S N E P B L1 L2 L3 : Nat → Int32) (sm kp th la ln sp od : Int32) (hs : Int64) (j : Nat) (x q : Int32) (H : Heap) (hμ : inj 10 μ) (hM : MO D G μ R S N E P B L1 L2 L3 sm kp th la ln sp od hs H) (hj : j < 3) (hwv : wz (usp R j x)) : Met l yX6_withSpeed wsX6_withSpeed ({ frames := 7, cells := 0, slots := 0, locals := 152 } : Room) (va_Pc [.ref (μ 0), .int (nI j), .int x, .int q] (CX D G H)) (QI (A6 μ) (fun r h => tif R j x q = r ∧ MP D G μ R S N E B L1 L2 L3 sm kp th ln sp od hs h)) 0 0 (A6 μ) := by
  refine Met.ofW (cc := cX6_withSpeed) (maxL := 6) (ret := (some .int)) (by decide) rfl ?_
  intro p e s m args below meth c s₁ B0 hml hv
  obtain ⟨rfl, rfl, hK, hN⟩ := hv
  have hx := B0.exec
  have hb := B0.bytes
  have hr := B0.returns
  have hts := atoms_spec (ws := wsX6_withSpeed) B0.pre
  have hown : s.vm.findClass RX6 = some m.cls := findClass_of_methodNamed B0.named
  have hlocks := B0.notSynchronized
  have hF : CallFix p m c cX6_withSpeed 6 s ([.ref (μ 0), .int (nI j), .int x, .int q] : List Value).toArray wsX6_withSpeed RX6 := ⟨hx, hb, hml, hown, hts⟩
  have hS : va_S (A6 μ) s.heap s.heap [] := va_S.rf
  have hl := lv_entry ([.ref (μ 0), .int (nI j), .int x, .int q]) (n := 6) (Nat.le_of_ble_eq_true rfl)
  rw [lg_entry_eq]
  generalize (lg_sl ([.ref (μ 0), .int (nI j), .int x, .int q]) ++ List.replicate (6 - (lg_sl ([.ref (μ 0), .int (nI j), .int x, .int q])).length) Slot.unset).toArray = ls at hl ⊢
  have hl : lv_has ls 6 [(0, .ref (μ 0)), (1, .int (nI j)), (2, .int x), (3, .int q)] := hl
  refine lv_aload_n hx hb dX6_withSpeed_0 rfl (lv_at hl 0 rfl) ?_
  refine lv_iload_n hx hb dX6_withSpeed_1 rfl (lv_at hl 1 rfl) ?_
  refine lv_iload_n hx hb dX6_withSpeed_2 rfl (lv_at hl 2 rfl) ?_
  refine dp_Vi hF hK hN (c_X6_speedNow l D G μ R S N E P B L1 L2 L3 sm kp th la ln sp od hs j x _ hμ hM (by omega)) (cwV 2 hts gX6_withSpeed_X6_speedNow rfl rfl rfl (by decide +kernel) ⟨Nat.le_of_ble_eq_true rfl, Nat.le_of_ble_eq_true rfl⟩) (dp_recv hK hM.1 rfl) hS (fun q hq => hq) [] rfl rfl hl.1 (Nat.le_of_ble_eq_true rfl) dX6_withSpeed_3 ⟨Nat.le_of_ble_eq_true rfl, Nat.le_of_ble_eq_true rfl⟩ (fun rH1 H1 locs hp hzH1 hkH1 hS => ?_)
  obtain ⟨rfl, hM⟩ := hp
  refine lv_istore (lv' := [(4, .int (R (10 + 10 * j))), (0, .ref (μ 0)), (1, .int (nI j)), (2, .int x), (3, .int q)]) hx hb dX6_withSpeed_6 hl (by decide) rfl (fun ls hl => ?_)
  refine lv_iload_n hx hb dX6_withSpeed_8 rfl (lv_at hl 4 rfl) ?_
  refine lv_if_ne (tgt := 19) hx hb dX6_withSpeed_9 (by decide) (fun c1 => ?_) (fun c1 => ?_)
  · refine lv_iload_n hx hb dX6_withSpeed_19 rfl (lv_at hl 4 rfl) ?_
    refine lv_iconst (v := 1) hx hb dX6_withSpeed_20 (by decide) ?_
    refine lv_icmp_ne (tgt := 32) hx hb dX6_withSpeed_21 (by decide) (fun c2 => ?_) (fun c2 => ?_)
    · refine lv_aload_n hx hb dX6_withSpeed_32 rfl (lv_at hl 1 rfl) ?_
      refine dp_Vi hF hK hN (c_X6_lacks l D G μ (usp R j x) S N E P B L1 L2 L3 sm kp th la ln sp od hs  _ hμ hM hwv) (cwV 0 hts gX6_withSpeed_X6_lacks rfl rfl rfl (by decide +kernel) ⟨Nat.le_of_ble_eq_true rfl, Nat.le_of_ble_eq_true rfl⟩) (dp_recv hK hM.1 rfl) hS (fun q hq => hq) [] rfl rfl hl.1 (Nat.le_of_ble_eq_true rfl) dX6_withSpeed_33 ⟨Nat.le_of_ble_eq_true rfl, Nat.le_of_ble_eq_true rfl⟩ (fun rH2 H2 locs hp hzH2 hkH2 hS => ?_)
      obtain ⟨rfl, P, la, hM⟩ := hp
      refine lv_istore (lv' := [(5, .int (lk (usp R j x) (fq (usp R j x)))), (4, .int (R (10 + 10 * j))), (0, .ref (μ 0)), (1, .int (nI j)), (2, .int x), (3, .int q)]) hx hb dX6_withSpeed_36 hl (by decide) rfl (fun ls hl => ?_)
      refine lv_aload_n hx hb dX6_withSpeed_38 rfl (lv_at hl 2 rfl) ?_
      refine lv_iload_n hx hb dX6_withSpeed_39 rfl (lv_at hl 3 rfl) ?_
      refine lv_iconst (v := 2) hx hb dX6_withSpeed_40 (by decide) ?_
      refine lv_iload hx hb dX6_withSpeed_41 (lv_at hl 1 rfl) ?_
      refine dp_Vv hF hK hN (c_X6_put l D G μ (usp R j x) S N E P B L1 L2 L3 sm kp th la ln sp od hs j 2 10 (R (10 + 10 * j)) _ hμ hM (by omega) (by decide) rfl) (cwV 3 hts gX6_withSpeed_X6_put rfl rfl rfl (by decide +kernel) ⟨Nat.le_of_ble_eq_true rfl, Nat.le_of_ble_eq_true rfl⟩) (dp_recv hK hM.1 rfl) hS (fun q hq => hq) [] rfl rfl hl.1 (Nat.le_of_ble_eq_true rfl) dX6_withSpeed_43 ⟨Nat.le_of_ble_eq_true rfl, Nat.le_of_ble_eq_true rfl⟩ (fun H3 locs hp hzH3 hkH3 hS => ?_)
      have hM := hp
      refine lv_iload hx hb dX6_withSpeed_46 (lv_at hl 0 rfl) ?_
      exact W.iret hx hb hr (fun t ht hW => ⟨⟨lk (usp R j x) (fq (usp R j x)), H3, rfl, ⟨by simp [tif, c1, c2], P, la, by rw [usp_usp, usp_self] at hM; exact hM⟩, ht⟩, hS.F ht⟩) hS.2.2 dX6_withSpeed_48
    refine lv_aload_n hx hb dX6_withSpeed_24 rfl (lv_at hl 1 rfl) ?_
    refine lv_iload_n hx hb dX6_withSpeed_25 rfl (lv_at hl 2 rfl) ?_
    refine dp_Vi hF hK hN (c_X6_power l D G μ (usp R j x) S N E P B L1 L2 L3 sm kp th la ln sp od hs j _ hμ hM hwv (by omega)) (cwV 1 hts gX6_withSpeed_X6_power rfl rfl rfl (by decide +kernel) ⟨Nat.le_of_ble_eq_true rfl, Nat.le_of_ble_eq_true rfl⟩) (dp_recv hK hM.1 rfl) hS (fun q hq => hq) [] rfl rfl hl.1 (Nat.le_of_ble_eq_true rfl) dX6_withSpeed_26 ⟨Nat.le_of_ble_eq_true rfl, Nat.le_of_ble_eq_true rfl⟩ (fun rH4 H4 locs hp hzH4 hkH4 hS => ?_)
    obtain ⟨rfl, P, la, hM⟩ := hp
    refine lv_goto (tgt := 36) hx hb dX6_withSpeed_29 (by decide) ?_
    refine lv_istore (lv' := [(5, .int (pw (usp R j x) j (fq (usp R j x)))), (4, .int (R (10 + 10 * j))), (0, .ref (μ 0)), (1, .int (nI j)), (2, .int x), (3, .int q)]) hx hb dX6_withSpeed_36 hl (by decide) rfl (fun ls hl => ?_)
    refine lv_aload_n hx hb dX6_withSpeed_38 rfl (lv_at hl 2 rfl) ?_
    refine lv_iload_n hx hb dX6_withSpeed_39 rfl (lv_at hl 3 rfl) ?_
    refine lv_iconst (v := 2) hx hb dX6_withSpeed_40 (by decide) ?_
    refine lv_iload hx hb dX6_withSpeed_41 (lv_at hl 1 rfl) ?_
    refine dp_Vv hF hK hN (c_X6_put l D G μ (usp R j x) S N E P B L1 L2 L3 sm kp th la ln sp od hs j 2 10 (R (10 + 10 * j)) _ hμ hM (by omega) (by decide) rfl) (cwV 3 hts gX6_withSpeed_X6_put rfl rfl rfl (by decide +kernel) ⟨Nat.le_of_ble_eq_true rfl, Nat.le_of_ble_eq_true rfl⟩) (dp_recv hK hM.1 rfl) hS (fun q hq => hq) [] rfl rfl hl.1 (Nat.le_of_ble_eq_true rfl) dX6_withSpeed_43 ⟨Nat.le_of_ble_eq_true rfl, Nat.le_of_ble_eq_true rfl⟩ (fun H5 locs hp hzH5 hkH5 hS => ?_)
    have hM := hp
    refine lv_iload hx hb dX6_withSpeed_46 (lv_at hl 0 rfl) ?_
    exact W.iret hx hb hr (fun t ht hW => ⟨⟨pw (usp R j x) j (fq (usp R j x)), H5, rfl, ⟨by simp [tif, c1, c2], P, la, by rw [usp_usp, usp_self] at hM; exact hM⟩, ht⟩, hS.F ht⟩) hS.2.2 dX6_withSpeed_48
  refine lv_aload_n hx hb dX6_withSpeed_12 rfl (lv_at hl 1 rfl) ?_
  refine dp_Vi hF hK hN (c_X6_frequency l D G μ (usp R j x) S N E P B L1 L2 L3 sm kp th la ln sp od hs  _ hμ hM hwv) (cwV 0 hts gX6_withSpeed_X6_frequency rfl rfl rfl (by decide +kernel) ⟨Nat.le_of_ble_eq_true rfl, Nat.le_of_ble_eq_true rfl⟩) (dp_recv hK hM.1 rfl) hS nA_i [] rfl rfl hl.1 (Nat.le_of_ble_eq_true rfl) dX6_withSpeed_13 ⟨Nat.le_of_ble_eq_true rfl, Nat.le_of_ble_eq_true rfl⟩ (fun rH6 H6 locs hp hzH6 hkH6 hS => ?_)
  obtain ⟨rfl, rfl⟩ := hp
  refine lv_goto (tgt := 36) hx hb dX6_withSpeed_16 (by decide) ?_
  refine lv_istore (lv' := [(5, .int (fq (usp R j x))), (4, .int (R (10 + 10 * j))), (0, .ref (μ 0)), (1, .int (nI j)), (2, .int x), (3, .int q)]) hx hb dX6_withSpeed_36 hl (by decide) rfl (fun ls hl => ?_)
  refine lv_aload_n hx hb dX6_withSpeed_38 rfl (lv_at hl 2 rfl) ?_
  refine lv_iload_n hx hb dX6_withSpeed_39 rfl (lv_at hl 3 rfl) ?_
  refine lv_iconst (v := 2) hx hb dX6_withSpeed_40 (by decide) ?_
  refine lv_iload hx hb dX6_withSpeed_41 (lv_at hl 1 rfl) ?_
  refine dp_Vv hF hK hN (c_X6_put l D G μ (usp R j x) S N E P B L1 L2 L3 sm kp th la ln sp od hs j 2 10 (R (10 + 10 * j)) _ hμ hM (by omega) (by decide) rfl) (cwV 3 hts gX6_withSpeed_X6_put rfl rfl rfl (by decide +kernel) ⟨Nat.le_of_ble_eq_true rfl, Nat.le_of_ble_eq_true rfl⟩) (dp_recv hK hM.1 rfl) hS (fun q hq => hq) [] rfl rfl hl.1 (Nat.le_of_ble_eq_true rfl) dX6_withSpeed_43 ⟨Nat.le_of_ble_eq_true rfl, Nat.le_of_ble_eq_true rfl⟩ (fun H7 locs hp hzH7 hkH7 hS => ?_)
  have hM := hp
  refine lv_iload hx hb dX6_withSpeed_46 (lv_at hl 0 rfl) ?_
  exact W.iret hx hb hr (fun t ht hW => ⟨⟨fq (usp R j x), H7, rfl, ⟨by simp [tif, c1], P, la, by rw [usp_usp, usp_self] at hM; exact hM⟩, ht⟩, hS.F ht⟩) hS.2.2 dX6_withSpeed_48

set_option maxHeartbeats 600000 in
set_option maxRecDepth 100000 in
theorem c_X6_tripIn (l : Launch) (D : va_G) (G : Nat → ClassId) (μ : Nat → Nat) (R S N E P B L1 L2 L3 : Nat → Int32) (sm kp th la ln sp od : Int32) (hs : Int64)  (H : Heap) (hμ : inj 10 μ) (hM : MO D G μ R S N E P B L1 L2 L3 sm kp th la ln sp od hs H) (htk : ∀ i, i < 100 → wz (pt R i) ∧ tz (tD (pt R i))) : Met l yX6_tripIn wsX6_tripIn ({ frames := 7, cells := 0, slots := 0, locals := 154 } : Room) (va_Pc [.ref (μ 0)] (CX D G H)) (QI (A6 μ) (fun r h => ntp R = r ∧ MP D G μ R S N R B L1 L2 L3 sm kp th ln sp od hs h)) 0 0 (A6 μ) := by
  refine Met.ofW (cc := cX6_tripIn) (maxL := 3) (ret := (some .int)) (by decide) rfl ?_
  intro p e s m args below meth c s₁ B0 hml hv
  obtain ⟨rfl, rfl, hK, hN⟩ := hv
  have hx := B0.exec
  have hb := B0.bytes
  have hr := B0.returns
  have hts := atoms_spec (ws := wsX6_tripIn) B0.pre
  have hown : s.vm.findClass RX6 = some m.cls := findClass_of_methodNamed B0.named
  have hlocks := B0.notSynchronized
  have hF : CallFix p m c cX6_tripIn 3 s ([.ref (μ 0)] : List Value).toArray wsX6_tripIn RX6 := ⟨hx, hb, hml, hown, hts⟩
  have hS : va_S (A6 μ) s.heap s.heap [] := va_S.rf
  have hl := lv_entry ([.ref (μ 0)]) (n := 3) (Nat.le_of_ble_eq_true rfl)
  rw [lg_entry_eq]
  generalize (lg_sl ([.ref (μ 0)]) ++ List.replicate (3 - (lg_sl ([.ref (μ 0)])).length) Slot.unset).toArray = ls at hl ⊢
  have hl : lv_has ls 3 [(0, .ref (μ 0))] := hl
  refine lv_aload_n hx hb dX6_tripIn_0 rfl (lv_at hl 0 rfl) ?_
  refine dp_Vv hF hK hN (c_X6_putAside l D G μ R S N E P B L1 L2 L3 sm kp th la ln sp od hs  _ hμ hM ) (cwV 0 hts gX6_tripIn_X6_putAside rfl rfl rfl (by decide +kernel) ⟨Nat.le_of_ble_eq_true rfl, Nat.le_of_ble_eq_true rfl⟩) (dp_recv hK hM.1 rfl) hS (fun q hq => hq) [] rfl rfl hl.1 (Nat.le_of_ble_eq_true rfl) dX6_tripIn_1 ⟨Nat.le_of_ble_eq_true rfl, Nat.le_of_ble_eq_true rfl⟩ (fun H1 locs hp hzH1 hkH1 hS => ?_)
  have hM := hp
  refine lv_iconst (v := 0) hx hb dX6_tripIn_4 (by decide) ?_
  refine lv_istore_n (lv' := [(1, .int 0), (0, .ref (μ 0))]) hx hb dX6_tripIn_5 rfl hl (by decide) rfl (fun ls hl => ?_)
  refine lv_iconst (v := 0) hx hb dX6_tripIn_6 (by decide) ?_
  refine lv_istore_n (lv' := [(2, .int 0), (1, .int 0), (0, .ref (μ 0))]) hx hb dX6_tripIn_7 rfl hl (by decide) rfl (fun ls hl => ?_)
  have loop8 : ∀ (m9 : Nat) (k : Nat) (trips : Int32) (Hh : Heap) (_ : k + m9 = 100) (_ : ntp R = if trips = 0 then ngo R k m9 else nI k) (_ : 0 ≤ trips) (_ : MP D G μ (pt R k) S N R B L1 L2 L3 sm kp th ln sp od hs Hh) (locs : List Loc) (_ : va_S (A6 μ) s.heap Hh locs) (ls : Array Slot) (_ : lv_has ls 3 [(0, .ref (μ 0)), (1, .int (nI k)), (2, .int trips)]), W p l e (headSpec wsX6_tripIn ({ frames := 7, cells := 0, slots := 0, locals := 154 } : Room)).room s m ([.ref (μ 0)] : List Value).toArray below meth c Hh locs 0 0 (MQ below (QI (A6 μ) (fun r h => ntp R = r ∧ MP D G μ R S N R B L1 L2 L3 sm kp th ln sp od hs h)) ([.ref (μ 0)] : List Value).toArray s 0 0 (A6 μ)) (F0 m 8 ls []) := by
    intro m9
    induction m9 with
    | zero =>
      intro k trips Hh hin hc9 h09 hMP locs hS ls hl
      obtain ⟨P, la, hM⟩ := hMP
      refine lv_iload_n hx hb dX6_tripIn_8 rfl (lv_at hl 1 rfl) ?_
      refine lv_bipush (v := 100) hx hb dX6_tripIn_9 (by decide) ?_
      refine lv_icmp_ge (tgt := 29) hx hb dX6_tripIn_11 (by decide) (fun c1 => ?_) (fun c1 => absurd (nI_le (a := 100) (b := k) (by omega) (by omega)) c1)
      refine lv_aload_n hx hb dX6_tripIn_29 rfl (lv_at hl 0 rfl) ?_
      refine dp_Vv hF hK hN (c_X6_putBack l D G μ (pt R k) S N R P B L1 L2 L3 sm kp th la ln sp od hs  _ hμ hM ) (cwV 0 hts gX6_tripIn_X6_putBack rfl rfl rfl (by decide +kernel) ⟨Nat.le_of_ble_eq_true rfl, Nat.le_of_ble_eq_true rfl⟩) (dp_recv hK hM.1 rfl) hS (fun q hq => hq) [] rfl rfl hl.1 (Nat.le_of_ble_eq_true rfl) dX6_tripIn_30 ⟨Nat.le_of_ble_eq_true rfl, Nat.le_of_ble_eq_true rfl⟩ (fun H2 locs hp hzH2 hkH2 hS => ?_)
      have hM := hp
      refine lv_iload_n hx hb dX6_tripIn_33 rfl (lv_at hl 2 rfl) ?_
      refine lv_if_le (tgt := 41) hx hb dX6_tripIn_34 (by decide) (fun c2 => ?_) (fun c2 => ?_)
      · refine lv_iconst (v := (-1)) hx hb dX6_tripIn_41 (by decide) ?_
        exact W.iret hx hb hr (fun t ht hW => ⟨⟨-1, H2, rfl, ⟨by rw [hc9, if_pos (Int32.le_antisymm c2 h09)]; rfl, P, la, hM⟩, ht⟩, hS.F ht⟩) hS.2.2 dX6_tripIn_42
      refine lv_iload_n hx hb dX6_tripIn_37 rfl (lv_at hl 1 rfl) ?_
      refine lv_goto (tgt := 42) hx hb dX6_tripIn_38 (by decide) ?_
      exact W.iret hx hb hr (fun t ht hW => ⟨⟨nI k, H2, rfl, ⟨by rw [hc9, if_neg (fun q => c2 (by rw [q]; decide))], P, la, hM⟩, ht⟩, hS.F ht⟩) hS.2.2 dX6_tripIn_42
    | succ m9 ih8 =>
      intro k trips Hh hin hc9 h09 hMP locs hS ls hl
      obtain ⟨P, la, hM⟩ := hMP
      refine lv_iload_n hx hb dX6_tripIn_8 rfl (lv_at hl 1 rfl) ?_
      refine lv_bipush (v := 100) hx hb dX6_tripIn_9 (by decide) ?_
      refine lv_icmp_ge (tgt := 29) hx hb dX6_tripIn_11 (by decide) (fun c3 => absurd c3 (nI_ge (a := k) (b := 100) (by omega) (by omega))) (fun c3 => ?_)
      refine lv_iload_n hx hb dX6_tripIn_14 rfl (lv_at hl 2 rfl) ?_
      refine lv_if_ne (tgt := 29) hx hb dX6_tripIn_15 (by decide) (fun c4 => ?_) (fun c4 => ?_)
      · refine lv_aload_n hx hb dX6_tripIn_29 rfl (lv_at hl 0 rfl) ?_
        refine dp_Vv hF hK hN (c_X6_putBack l D G μ (pt R k) S N R P B L1 L2 L3 sm kp th la ln sp od hs  _ hμ hM ) (cwV 0 hts gX6_tripIn_X6_putBack rfl rfl rfl (by decide +kernel) ⟨Nat.le_of_ble_eq_true rfl, Nat.le_of_ble_eq_true rfl⟩) (dp_recv hK hM.1 rfl) hS (fun q hq => hq) [] rfl rfl hl.1 (Nat.le_of_ble_eq_true rfl) dX6_tripIn_30 ⟨Nat.le_of_ble_eq_true rfl, Nat.le_of_ble_eq_true rfl⟩ (fun H3 locs hp hzH3 hkH3 hS => ?_)
        have hM := hp
        refine lv_iload_n hx hb dX6_tripIn_33 rfl (lv_at hl 2 rfl) ?_
        refine lv_if_le (tgt := 41) hx hb dX6_tripIn_34 (by decide) (fun c5 => absurd c5 (fun q => c4 (Int32.le_antisymm q h09))) (fun c5 => ?_)
        refine lv_iload_n hx hb dX6_tripIn_37 rfl (lv_at hl 1 rfl) ?_
        refine lv_goto (tgt := 42) hx hb dX6_tripIn_38 (by decide) ?_
        exact W.iret hx hb hr (fun t ht hW => ⟨⟨nI k, H3, rfl, ⟨by rw [hc9, if_neg c4], P, la, hM⟩, ht⟩, hS.F ht⟩) hS.2.2 dX6_tripIn_42
      refine lv_aload_n hx hb dX6_tripIn_18 rfl (lv_at hl 0 rfl) ?_
      refine dp_Vi hF hK hN (c_X6_tick l D G μ (pt R k) S N R P B L1 L2 L3 sm kp th la ln sp od hs  _ hμ hM (htk k (by omega)).1 (htk k (by omega)).2) (cwV 0 hts gX6_tripIn_X6_tick rfl rfl rfl (by decide +kernel) ⟨Nat.le_of_ble_eq_true rfl, Nat.le_of_ble_eq_true rfl⟩) (dp_recv hK hM.1 rfl) hS (fun q hq => hq) [] rfl rfl hl.1 (Nat.le_of_ble_eq_true rfl) dX6_tripIn_19 ⟨Nat.le_of_ble_eq_true rfl, Nat.le_of_ble_eq_true rfl⟩ (fun rH4 H4 locs hp hzH4 hkH4 hS => ?_)
      obtain ⟨rfl, P, la, hM⟩ := hp
      refine lv_istore_n (lv' := [(2, .int (tkn (pt R k))), (0, .ref (μ 0)), (1, .int (nI k))]) hx hb dX6_tripIn_22 rfl hl (by decide) rfl (fun ls hl => ?_)
      refine lv_iinc (v := nI (k + 1)) (lv' := [(1, .int (nI (k + 1))), (2, .int (tkn (pt R k))), (0, .ref (μ 0))]) hx hb dX6_tripIn_23 hl (k := 2) rfl (nI_1 k) (by decide) rfl (fun ls hl => ?_)
      refine lv_goto (tgt := 8) hx hb dX6_tripIn_26 (by decide) ?_
      exact ih8 (k + 1) (tkn (pt R k)) H4 (by omega) (ngo_s (by rw [hc9, c4])) (tkn_nn _) ⟨_, _, hM⟩ _ hS _ (lv_sub hl [2, 0, 1] rfl)
  exact loop8 100 0 0 H1 rfl (by rw [if_pos rfl, ntp]) (by decide) ⟨_, _, hM⟩ _ hS _ (lv_sub hl [2, 1, 0] rfl)

set_option maxHeartbeats 600000 in
set_option maxRecDepth 100000 in
theorem c_X6_closableIn (l : Launch) (D : va_G) (G : Nat → ClassId) (μ : Nat → Nat) (R S N E P B L1 L2 L3 : Nat → Int32) (sm kp th la ln sp od : Int32) (hs : Int64) (j : Nat) (H : Heap) (hμ : inj 10 μ) (hM : MO D G μ R S N E P B L1 L2 L3 sm kp th la ln sp od hs H) (hj : j < 3) (htk : ∀ i, i ≤ 500 → wz (pt R i) ∧ tz (tD (pt R i))) : Met l yX6_closableIn wsX6_closableIn ({ frames := 7, cells := 0, slots := 0, locals := 154 } : Room) (va_Pc [.ref (μ 0), .int (nI j)] (CX D G H)) (QI (A6 μ) (fun r h => cin R j = r ∧ MP D G μ R S N R B L1 L2 L3 sm kp th ln sp od hs h)) 0 0 (A6 μ) := by
  refine Met.ofW (cc := cX6_closableIn) (maxL := 4) (ret := (some .int)) (by decide) rfl ?_
  intro p e s m args below meth c s₁ B0 hml hv
  obtain ⟨rfl, rfl, hK, hN⟩ := hv
  have hx := B0.exec
  have hb := B0.bytes
  have hr := B0.returns
  have hts := atoms_spec (ws := wsX6_closableIn) B0.pre
  have hown : s.vm.findClass RX6 = some m.cls := findClass_of_methodNamed B0.named
  have hlocks := B0.notSynchronized
  have hF : CallFix p m c cX6_closableIn 4 s ([.ref (μ 0), .int (nI j)] : List Value).toArray wsX6_closableIn RX6 := ⟨hx, hb, hml, hown, hts⟩
  have hS : va_S (A6 μ) s.heap s.heap [] := va_S.rf
  have hl := lv_entry ([.ref (μ 0), .int (nI j)]) (n := 4) (Nat.le_of_ble_eq_true rfl)
  rw [lg_entry_eq]
  generalize (lg_sl ([.ref (μ 0), .int (nI j)]) ++ List.replicate (4 - (lg_sl ([.ref (μ 0), .int (nI j)])).length) Slot.unset).toArray = ls at hl ⊢
  have hl : lv_has ls 4 [(0, .ref (μ 0)), (1, .int (nI j))] := hl
  refine lv_aload_n hx hb dX6_closableIn_0 rfl (lv_at hl 0 rfl) ?_
  refine dp_Vv hF hK hN (c_X6_putAside l D G μ R S N E P B L1 L2 L3 sm kp th la ln sp od hs  _ hμ hM ) (cwV 0 hts gX6_closableIn_X6_putAside rfl rfl rfl (by decide +kernel) ⟨Nat.le_of_ble_eq_true rfl, Nat.le_of_ble_eq_true rfl⟩) (dp_recv hK hM.1 rfl) hS (fun q hq => hq) [] rfl rfl hl.1 (Nat.le_of_ble_eq_true rfl) dX6_closableIn_1 ⟨Nat.le_of_ble_eq_true rfl, Nat.le_of_ble_eq_true rfl⟩ (fun H1 locs hp hzH1 hkH1 hS => ?_)
  have hM := hp
  refine lv_iconst (v := 0) hx hb dX6_closableIn_4 (by decide) ?_
  refine lv_istore_n (lv' := [(2, .int 0), (0, .ref (μ 0)), (1, .int (nI j))]) hx hb dX6_closableIn_5 rfl hl (by decide) rfl (fun ls hl => ?_)
  have loop6 : ∀ (m9 : Nat) (i : Nat) (Hh : Heap) (_ : i + m9 = 500) (_ : cin R j = cgo R j i (m9 + 1)) (_ : MP D G μ (pt R i) S N R B L1 L2 L3 sm kp th ln sp od hs Hh) (locs : List Loc) (_ : va_S (A6 μ) s.heap Hh locs) (ls : Array Slot) (_ : lv_has ls 4 [(0, .ref (μ 0)), (1, .int (nI j)), (2, .int (nI i))]), W p l e (headSpec wsX6_closableIn ({ frames := 7, cells := 0, slots := 0, locals := 154 } : Room)).room s m ([.ref (μ 0), .int (nI j)] : List Value).toArray below meth c Hh locs 0 0 (MQ below (QI (A6 μ) (fun r h => cin R j = r ∧ MP D G μ R S N R B L1 L2 L3 sm kp th ln sp od hs h)) ([.ref (μ 0), .int (nI j)] : List Value).toArray s 0 0 (A6 μ)) (F0 m 6 ls []) := by
    intro m9
    induction m9 with
    | zero =>
      intro i Hh hin hc9 hMP locs hS ls hl
      obtain ⟨P, la, hM⟩ := hMP
      refine lv_iload_n hx hb dX6_closableIn_6 rfl (lv_at hl 2 rfl) ?_
      refine lv_sipush (v := 500) hx hb dX6_closableIn_7 (by decide) ?_
      refine lv_icmp_ge (tgt := 32) hx hb dX6_closableIn_10 (by decide) (fun c1 => ?_) (fun c1 => absurd (nI_le (a := 500) (b := i) (by omega) (by omega)) c1)
      refine lv_aload_n hx hb dX6_closableIn_32 rfl (lv_at hl 0 rfl) ?_
      refine lv_iload_n hx hb dX6_closableIn_33 rfl (lv_at hl 1 rfl) ?_
      refine dp_Vi hF hK hN (c_X6_reason l D G μ (pt R i) S N R P B L1 L2 L3 sm kp th la ln sp od hs j _ hμ hM (htk i (by omega)).1 hj) (cwV 1 hts gX6_closableIn_X6_reason rfl rfl rfl (by decide +kernel) ⟨Nat.le_of_ble_eq_true rfl, Nat.le_of_ble_eq_true rfl⟩) (dp_recv hK hM.1 rfl) hS nA_i [] rfl rfl hl.1 (Nat.le_of_ble_eq_true rfl) dX6_closableIn_34 ⟨Nat.le_of_ble_eq_true rfl, Nat.le_of_ble_eq_true rfl⟩ (fun rH2 H2 locs hp hzH2 hkH2 hS => ?_)
      obtain ⟨rfl, rfl⟩ := hp
      refine lv_if_ne (tgt := 44) hx hb dX6_closableIn_37 (by decide) (fun c2 => ?_) (fun c2 => ?_)
      · refine lv_iconst (v := (-1)) hx hb dX6_closableIn_44 (by decide) ?_
        refine lv_istore_n (lv' := [(3, .int (-1)), (0, .ref (μ 0)), (1, .int (nI j)), (2, .int (nI i))]) hx hb dX6_closableIn_45 rfl hl (by decide) rfl (fun ls hl => ?_)
        refine lv_aload_n hx hb dX6_closableIn_46 rfl (lv_at hl 1 rfl) ?_
        refine dp_Vv hF hK hN (c_X6_putBack l D G μ (pt R i) S N R P B L1 L2 L3 sm kp th la ln sp od hs  _ hμ hM ) (cwV 0 hts gX6_closableIn_X6_putBack rfl rfl rfl (by decide +kernel) ⟨Nat.le_of_ble_eq_true rfl, Nat.le_of_ble_eq_true rfl⟩) (dp_recv hK hM.1 rfl) hS (fun q hq => hq) [] rfl rfl hl.1 (Nat.le_of_ble_eq_true rfl) dX6_closableIn_47 ⟨Nat.le_of_ble_eq_true rfl, Nat.le_of_ble_eq_true rfl⟩ (fun H3 locs hp hzH3 hkH3 hS => ?_)
        have hM := hp
        refine lv_iload_n hx hb dX6_closableIn_50 rfl (lv_at hl 0 rfl) ?_
        exact W.iret hx hb hr (fun t ht hW => ⟨⟨-1, H3, rfl, ⟨by rw [hc9, cgo, if_neg c2]; rfl, P, la, hM⟩, ht⟩, hS.F ht⟩) hS.2.2 dX6_closableIn_51
      refine lv_iload_n hx hb dX6_closableIn_40 rfl (lv_at hl 2 rfl) ?_
      refine lv_goto (tgt := 45) hx hb dX6_closableIn_41 (by decide) ?_
      refine lv_istore_n (lv' := [(3, .int (nI i)), (0, .ref (μ 0)), (1, .int (nI j)), (2, .int (nI i))]) hx hb dX6_closableIn_45 rfl hl (by decide) rfl (fun ls hl => ?_)
      refine lv_aload_n hx hb dX6_closableIn_46 rfl (lv_at hl 1 rfl) ?_
      refine dp_Vv hF hK hN (c_X6_putBack l D G μ (pt R i) S N R P B L1 L2 L3 sm kp th la ln sp od hs  _ hμ hM ) (cwV 0 hts gX6_closableIn_X6_putBack rfl rfl rfl (by decide +kernel) ⟨Nat.le_of_ble_eq_true rfl, Nat.le_of_ble_eq_true rfl⟩) (dp_recv hK hM.1 rfl) hS (fun q hq => hq) [] rfl rfl hl.1 (Nat.le_of_ble_eq_true rfl) dX6_closableIn_47 ⟨Nat.le_of_ble_eq_true rfl, Nat.le_of_ble_eq_true rfl⟩ (fun H4 locs hp hzH4 hkH4 hS => ?_)
      have hM := hp
      refine lv_iload_n hx hb dX6_closableIn_50 rfl (lv_at hl 0 rfl) ?_
      exact W.iret hx hb hr (fun t ht hW => ⟨⟨nI i, H4, rfl, ⟨by rw [hc9, cgo, if_pos c2], P, la, hM⟩, ht⟩, hS.F ht⟩) hS.2.2 dX6_closableIn_51
    | succ m9 ih6 =>
      intro i Hh hin hc9 hMP locs hS ls hl
      obtain ⟨P, la, hM⟩ := hMP
      refine lv_iload_n hx hb dX6_closableIn_6 rfl (lv_at hl 2 rfl) ?_
      refine lv_sipush (v := 500) hx hb dX6_closableIn_7 (by decide) ?_
      refine lv_icmp_ge (tgt := 32) hx hb dX6_closableIn_10 (by decide) (fun c3 => absurd c3 (nI_ge (a := i) (b := 500) (by omega) (by omega))) (fun c3 => ?_)
      refine lv_aload_n hx hb dX6_closableIn_13 rfl (lv_at hl 0 rfl) ?_
      refine lv_iload_n hx hb dX6_closableIn_14 rfl (lv_at hl 1 rfl) ?_
      refine dp_Vi hF hK hN (c_X6_reason l D G μ (pt R i) S N R P B L1 L2 L3 sm kp th la ln sp od hs j _ hμ hM (htk i (by omega)).1 hj) (cwV 1 hts gX6_closableIn_X6_reason rfl rfl rfl (by decide +kernel) ⟨Nat.le_of_ble_eq_true rfl, Nat.le_of_ble_eq_true rfl⟩) (dp_recv hK hM.1 rfl) hS nA_i [] rfl rfl hl.1 (Nat.le_of_ble_eq_true rfl) dX6_closableIn_15 ⟨Nat.le_of_ble_eq_true rfl, Nat.le_of_ble_eq_true rfl⟩ (fun rH5 H5 locs hp hzH5 hkH5 hS => ?_)
      obtain ⟨rfl, rfl⟩ := hp
      refine lv_if_le (tgt := 32) hx hb dX6_closableIn_18 (by decide) (fun c4 => ?_) (fun c4 => ?_)
      · refine lv_aload_n hx hb dX6_closableIn_32 rfl (lv_at hl 0 rfl) ?_
        refine lv_iload_n hx hb dX6_closableIn_33 rfl (lv_at hl 1 rfl) ?_
        refine dp_Vi hF hK hN (c_X6_reason l D G μ (pt R i) S N R P B L1 L2 L3 sm kp th la ln sp od hs j _ hμ hM (htk i (by omega)).1 hj) (cwV 1 hts gX6_closableIn_X6_reason rfl rfl rfl (by decide +kernel) ⟨Nat.le_of_ble_eq_true rfl, Nat.le_of_ble_eq_true rfl⟩) (dp_recv hK hM.1 rfl) hS nA_i [] rfl rfl hl.1 (Nat.le_of_ble_eq_true rfl) dX6_closableIn_34 ⟨Nat.le_of_ble_eq_true rfl, Nat.le_of_ble_eq_true rfl⟩ (fun rH6 H6 locs hp hzH6 hkH6 hS => ?_)
        obtain ⟨rfl, rfl⟩ := hp
        refine lv_if_ne (tgt := 44) hx hb dX6_closableIn_37 (by decide) (fun c5 => absurd c5 (fun q => q (Int32.le_antisymm c4 (rsn_nn _ _)))) (fun c5 => ?_)
        refine lv_iload_n hx hb dX6_closableIn_40 rfl (lv_at hl 2 rfl) ?_
        refine lv_goto (tgt := 45) hx hb dX6_closableIn_41 (by decide) ?_
        refine lv_istore_n (lv' := [(3, .int (nI i)), (0, .ref (μ 0)), (1, .int (nI j)), (2, .int (nI i))]) hx hb dX6_closableIn_45 rfl hl (by decide) rfl (fun ls hl => ?_)
        refine lv_aload_n hx hb dX6_closableIn_46 rfl (lv_at hl 1 rfl) ?_
        refine dp_Vv hF hK hN (c_X6_putBack l D G μ (pt R i) S N R P B L1 L2 L3 sm kp th la ln sp od hs  _ hμ hM ) (cwV 0 hts gX6_closableIn_X6_putBack rfl rfl rfl (by decide +kernel) ⟨Nat.le_of_ble_eq_true rfl, Nat.le_of_ble_eq_true rfl⟩) (dp_recv hK hM.1 rfl) hS (fun q hq => hq) [] rfl rfl hl.1 (Nat.le_of_ble_eq_true rfl) dX6_closableIn_47 ⟨Nat.le_of_ble_eq_true rfl, Nat.le_of_ble_eq_true rfl⟩ (fun H7 locs hp hzH7 hkH7 hS => ?_)
        have hM := hp
        refine lv_iload_n hx hb dX6_closableIn_50 rfl (lv_at hl 0 rfl) ?_
        exact W.iret hx hb hr (fun t ht hW => ⟨⟨nI i, H7, rfl, ⟨by rw [hc9, cgo, if_pos (Int32.le_antisymm c4 (rsn_nn _ _))], P, la, hM⟩, ht⟩, hS.F ht⟩) hS.2.2 dX6_closableIn_51
      refine lv_aload_n hx hb dX6_closableIn_21 rfl (lv_at hl 0 rfl) ?_
      refine dp_Vi hF hK hN (c_X6_tick l D G μ (pt R i) S N R P B L1 L2 L3 sm kp th la ln sp od hs  _ hμ hM (htk i (by omega)).1 (htk i (by omega)).2) (cwV 0 hts gX6_closableIn_X6_tick rfl rfl rfl (by decide +kernel) ⟨Nat.le_of_ble_eq_true rfl, Nat.le_of_ble_eq_true rfl⟩) (dp_recv hK hM.1 rfl) hS (fun q hq => hq) [] rfl rfl hl.1 (Nat.le_of_ble_eq_true rfl) dX6_closableIn_22 ⟨Nat.le_of_ble_eq_true rfl, Nat.le_of_ble_eq_true rfl⟩ (fun rH8 H8 locs hp hzH8 hkH8 hS => ?_)
      obtain ⟨rfl, P, la, hM⟩ := hp
      refine lv_istore_n (lv' := [(3, .int (tkn (pt R i))), (0, .ref (μ 0)), (1, .int (nI j)), (2, .int (nI i))]) hx hb dX6_closableIn_25 rfl hl (by decide) rfl (fun ls hl => ?_)
      refine lv_iinc (v := nI (i + 1)) (lv' := [(2, .int (nI (i + 1))), (3, .int (tkn (pt R i))), (0, .ref (μ 0)), (1, .int (nI j))]) hx hb dX6_closableIn_26 hl (k := 3) rfl (nI_1 i) (by decide) rfl (fun ls hl => ?_)
      refine lv_goto (tgt := 6) hx hb dX6_closableIn_29 (by decide) ?_
      exact ih6 (i + 1) H8 (by omega) (by rw [hc9, cgo, if_neg (fun q => c4 (by rw [q]; decide))]) ⟨_, _, hM⟩ _ hS _ (lv_sub hl [2, 3, 0] rfl)
  exact loop6 500 0 H1 rfl (cin_m hj) ⟨_, _, hM⟩ _ hS _ (lv_sub hl [1, 2, 0] rfl)

set_option maxHeartbeats 600000 in
set_option maxRecDepth 100000 in
theorem c_X6_fairFor (l : Launch) (D : va_G) (G : Nat → ClassId) (μ : Nat → Nat) (R S N E P B L1 L2 L3 : Nat → Int32) (sm kp th la ln sp od : Int32) (hs : Int64) (j : Nat) (H : Heap) (hμ : inj 10 μ) (hM : MO D G μ R S N E P B L1 L2 L3 sm kp th la ln sp od hs H) (hwz : wz R) (hj : j < 3) (hrt0 : ¬ R (12 + 10 * j) = 0 → ¬ rat R 3 = 0) (hwv : ∀ k, k ≤ 600 → wz (usp R j (nI (4700 + k)))) : Met l yX6_fairFor wsX6_fairFor ({ frames := 8, cells := 0, slots := 0, locals := 177 } : Room) (va_Pc [.ref (μ 0), .int (nI j)] (CX D G H)) (QI (A6 μ) (fun r h => fair R j = r ∧ MP D G μ R S N E B L1 L2 L3 sm kp th ln sp od hs h)) 0 0 (A6 μ) := by
  refine Met.ofW (cc := cX6_fairFor) (maxL := 8) (ret := (some .int)) (by decide) rfl ?_
  intro p e s m args below meth c s₁ B0 hml hv
  obtain ⟨rfl, rfl, hK, hN⟩ := hv
  have hx := B0.exec
  have hb := B0.bytes
  have hr := B0.returns
  have hts := atoms_spec (ws := wsX6_fairFor) B0.pre
  have hown : s.vm.findClass RX6 = some m.cls := findClass_of_methodNamed B0.named
  have hlocks := B0.notSynchronized
  have hF : CallFix p m c cX6_fairFor 8 s ([.ref (μ 0), .int (nI j)] : List Value).toArray wsX6_fairFor RX6 := ⟨hx, hb, hml, hown, hts⟩
  have hS : va_S (A6 μ) s.heap s.heap [] := va_S.rf
  have hl := lv_entry ([.ref (μ 0), .int (nI j)]) (n := 8) (Nat.le_of_ble_eq_true rfl)
  rw [lg_entry_eq]
  generalize (lg_sl ([.ref (μ 0), .int (nI j)]) ++ List.replicate (8 - (lg_sl ([.ref (μ 0), .int (nI j)])).length) Slot.unset).toArray = ls at hl ⊢
  have hl : lv_has ls 8 [(0, .ref (μ 0)), (1, .int (nI j))] := hl
  refine lv_aload_n hx hb dX6_fairFor_0 rfl (lv_at hl 0 rfl) ?_
  refine lv_iload_n hx hb dX6_fairFor_1 rfl (lv_at hl 1 rfl) ?_
  refine lv_iconst (v := 4) hx hb dX6_fairFor_2 (by decide) ?_
  refine dp_Vi hF hK hN (c_X6_of l D G μ R S N E P B L1 L2 L3 sm kp th la ln sp od hs j 4 12 _ hμ hM hj (by decide) rfl) (cwV 2 hts gX6_fairFor_X6_of rfl rfl rfl (by decide +kernel) ⟨Nat.le_of_ble_eq_true rfl, Nat.le_of_ble_eq_true rfl⟩) (dp_recv hK hM.1 rfl) hS nA_i [] rfl rfl hl.1 (Nat.le_of_ble_eq_true rfl) dX6_fairFor_3 ⟨Nat.le_of_ble_eq_true rfl, Nat.le_of_ble_eq_true rfl⟩ (fun rH1 H1 locs hp hzH1 hkH1 hS => ?_)
  obtain ⟨rfl, rfl⟩ := hp
  refine lv_if_ne (tgt := 11) hx hb dX6_fairFor_6 (by decide) (fun c1 => ?_) (fun c1 => ?_)
  · refine lv_aload_n hx hb dX6_fairFor_11 rfl (lv_at hl 0 rfl) ?_
    refine dp_Vi hF hK hN (c_X6_load l D G μ R S N E P B L1 L2 L3 sm kp th la ln sp od hs  _ hμ hM hwz) (cwV 0 hts gX6_fairFor_X6_load rfl rfl rfl (by decide +kernel) ⟨Nat.le_of_ble_eq_true rfl, Nat.le_of_ble_eq_true rfl⟩) (dp_recv hK hM.1 rfl) hS nA_i [] rfl rfl hl.1 (Nat.le_of_ble_eq_true rfl) dX6_fairFor_12 ⟨Nat.le_of_ble_eq_true rfl, Nat.le_of_ble_eq_true rfl⟩ (fun rH2 H2 locs hp hzH2 hkH2 hS => ?_)
    obtain ⟨rfl, rfl⟩ := hp
    refine lv_aload_n hx hb dX6_fairFor_15 rfl (lv_at hl 0 rfl) ?_
    refine lv_iload_n hx hb dX6_fairFor_16 rfl (lv_at hl 1 rfl) ?_
    refine lv_iconst (v := 0) hx hb dX6_fairFor_17 (by decide) ?_
    refine dp_Vi hF hK hN (c_X6_of l D G μ R S N E P B L1 L2 L3 sm kp th la ln sp od hs j 0 8 _ hμ hM hj (by decide) rfl) (cwV 2 hts gX6_fairFor_X6_of rfl rfl rfl (by decide +kernel) ⟨Nat.le_of_ble_eq_true rfl, Nat.le_of_ble_eq_true rfl⟩) (dp_recv hK hM.1 rfl) hS nA_i [.int (ld R)] rfl rfl hl.1 (Nat.le_of_ble_eq_true rfl) dX6_fairFor_18 ⟨Nat.le_of_ble_eq_true rfl, Nat.le_of_ble_eq_true rfl⟩ (fun rH3 H3 locs hp hzH3 hkH3 hS => ?_)
    obtain ⟨rfl, rfl⟩ := hp
    refine lv_imul hx hb dX6_fairFor_21 ?_
    refine lv_aload_n hx hb dX6_fairFor_22 rfl (lv_at hl 0 rfl) ?_
    refine dp_Vi hF hK hN (c_X6_ratings l D G μ R S N E P B L1 L2 L3 sm kp th la ln sp od hs  _ hμ hM hwz.1) (cwV 0 hts gX6_fairFor_X6_ratings rfl rfl rfl (by decide +kernel) ⟨Nat.le_of_ble_eq_true rfl, Nat.le_of_ble_eq_true rfl⟩) (dp_recv hK hM.1 rfl) hS nA_i [.int ((ld R) * (R (8 + 10 * j)))] rfl rfl hl.1 (Nat.le_of_ble_eq_true rfl) dX6_fairFor_23 ⟨Nat.le_of_ble_eq_true rfl, Nat.le_of_ble_eq_true rfl⟩ (fun rH4 H4 locs hp hzH4 hkH4 hS => ?_)
    obtain ⟨rfl, rfl⟩ := hp
    refine lv_idiv hx hb dX6_fairFor_26 (hrt0 c1) ?_
    refine lv_istore_n (lv' := [(2, .int (((ld R) * (R (8 + 10 * j))) / (rat R 3))), (0, .ref (μ 0)), (1, .int (nI j))]) hx hb dX6_fairFor_27 rfl hl (by decide) rfl (fun ls hl => ?_)
    refine lv_iconst (v := (-1)) hx hb dX6_fairFor_28 (by decide) ?_
    refine lv_istore_n (lv' := [(3, .int (-1)), (2, .int (((ld R) * (R (8 + 10 * j))) / (rat R 3))), (0, .ref (μ 0)), (1, .int (nI j))]) hx hb dX6_fairFor_29 rfl hl (by decide) rfl (fun ls hl => ?_)
    refine lv_iconst (v := 0) hx hb dX6_fairFor_30 (by decide) ?_
    refine lv_istore (lv' := [(4, .int 0), (3, .int (-1)), (2, .int (((ld R) * (R (8 + 10 * j))) / (rat R 3))), (0, .ref (μ 0)), (1, .int (nI j))]) hx hb dX6_fairFor_31 hl (by decide) rfl (fun ls hl => ?_)
    refine lv_sipush (v := 4700) hx hb dX6_fairFor_33 (by decide) ?_
    refine lv_istore (lv' := [(5, .int 4700), (4, .int 0), (3, .int (-1)), (2, .int (((ld R) * (R (8 + 10 * j))) / (rat R 3))), (0, .ref (μ 0)), (1, .int (nI j))]) hx hb dX6_fairFor_36 hl (by decide) rfl (fun ls hl => ?_)
    have loop38 : ∀ (m9 : Nat) (k : Nat) (bs : Int32) (ls9 : Int32) (Hh : Heap) (_ : k + m9 = 601) (_ : fbl R j (ld R * R (8 + 10 * j) / rat R 3) k = (bs, ls9)) (_ : MP D G μ R S N E B L1 L2 L3 sm kp th ln sp od hs Hh) (locs : List Loc) (_ : va_S (A6 μ) s.heap Hh locs) (ls : Array Slot) (_ : lv_has ls 8 [(0, .ref (μ 0)), (1, .int (nI j)), (2, .int (ld R * R (8 + 10 * j) / rat R 3)), (3, .int bs), (4, .int ls9), (5, .int (nI (4700 + k)))]), W p l e (headSpec wsX6_fairFor ({ frames := 8, cells := 0, slots := 0, locals := 177 } : Room)).room s m ([.ref (μ 0), .int (nI j)] : List Value).toArray below meth c Hh locs 0 0 (MQ below (QI (A6 μ) (fun r h => fair R j = r ∧ MP D G μ R S N E B L1 L2 L3 sm kp th ln sp od hs h)) ([.ref (μ 0), .int (nI j)] : List Value).toArray s 0 0 (A6 μ)) (F0 m 38 ls []) := by
      intro m9
      induction m9 with
      | zero =>
        intro k bs ls9 Hh hin hbs hMP locs hS ls hl
        obtain ⟨P, la, hM⟩ := hMP
        refine lv_iload hx hb dX6_fairFor_38 (lv_at hl 5 rfl) ?_
        refine lv_sipush (v := 5300) hx hb dX6_fairFor_40 (by decide) ?_
        refine lv_icmp_gt (tgt := 112) hx hb dX6_fairFor_43 (by decide) (fun c2 => ?_) (fun c2 => absurd (nI_lt (a := 5300) (b := 4700 + k) (by omega) (by omega)) c2)
        refine lv_iload_n hx hb dX6_fairFor_112 rfl (lv_at hl 3 rfl) ?_
        exact W.iret hx hb hr (fun t ht hW => ⟨⟨bs, Hh, rfl, ⟨by rw [fair, if_neg c1, if_neg (hrt0 c1), show 601 = k by omega, hbs], P, la, hM⟩, ht⟩, hS.F ht⟩) hS.2.2 dX6_fairFor_113
      | succ m9 ih38 =>
        intro k bs ls9 Hh hin hbs hMP locs hS ls hl
        obtain ⟨P, la, hM⟩ := hMP
        refine lv_iload hx hb dX6_fairFor_38 (lv_at hl 5 rfl) ?_
        refine lv_sipush (v := 5300) hx hb dX6_fairFor_40 (by decide) ?_
        refine lv_icmp_gt (tgt := 112) hx hb dX6_fairFor_43 (by decide) (fun c3 => absurd c3 (nI_nlt (a := 5300) (b := 4700 + k) (by omega) (by omega))) (fun c3 => ?_)
        refine lv_aload_n hx hb dX6_fairFor_46 rfl (lv_at hl 0 rfl) ?_
        refine lv_iload_n hx hb dX6_fairFor_47 rfl (lv_at hl 1 rfl) ?_
        refine lv_iload hx hb dX6_fairFor_48 (lv_at hl 5 rfl) ?_
        refine lv_iconst (v := 1) hx hb dX6_fairFor_50 (by decide) ?_
        refine dp_Vi hF hK hN (c_X6_withSpeed l D G μ R S N E P B L1 L2 L3 sm kp th la ln sp od hs j (nI (4700 + k)) 1 _ hμ hM hj (hwv k (by omega))) (cwV 3 hts gX6_fairFor_X6_withSpeed rfl rfl rfl (by decide +kernel) ⟨Nat.le_of_ble_eq_true rfl, Nat.le_of_ble_eq_true rfl⟩) (dp_recv hK hM.1 rfl) hS (fun q hq => hq) [] rfl rfl hl.1 (Nat.le_of_ble_eq_true rfl) dX6_fairFor_51 ⟨Nat.le_of_ble_eq_true rfl, Nat.le_of_ble_eq_true rfl⟩ (fun rH5 H5 locs hp hzH5 hkH5 hS => ?_)
        obtain ⟨rfl, P, la, hM⟩ := hp
        refine lv_iload_n hx hb dX6_fairFor_54 rfl (lv_at hl 2 rfl) ?_
        refine lv_isub hx hb dX6_fairFor_55 ?_
        refine dp_Si hF hK hN (c_X6_size l D G ((tif R j (nI (4700 + k)) 1) - (ld R * R (8 + 10 * j) / rat R 3)) _) (va_cwS 1 hts gX6_fairFor_X6_size rfl rfl rfl (by decide +kernel) ⟨Nat.le_of_ble_eq_true rfl, Nat.le_of_ble_eq_true rfl⟩) hS nA_i [] rfl rfl hl.1 (Nat.le_of_ble_eq_true rfl) dX6_fairFor_56 ⟨Nat.le_of_ble_eq_true rfl, Nat.le_of_ble_eq_true rfl⟩ (fun rH6 H6 locs hp hzH6 hkH6 hS => ?_)
        obtain ⟨rfl, rfl⟩ := hp
        rw [show ab (tif R j (nI (4700 + k)) 1 - (ld R * R (8 + 10 * j) / rat R 3)) = fdf R j (ld R * R (8 + 10 * j) / rat R 3) k by rw [tif_1]; rfl]
        refine lv_istore (lv' := [(6, .int (fdf R j (ld R * R (8 + 10 * j) / rat R 3) k)), (0, .ref (μ 0)), (1, .int (nI j)), (2, .int (ld R * R (8 + 10 * j) / rat R 3)), (3, .int bs), (4, .int ls9), (5, .int (nI (4700 + k)))]) hx hb dX6_fairFor_59 hl (by decide) rfl (fun ls hl => ?_)
        refine lv_iload_n hx hb dX6_fairFor_61 rfl (lv_at hl 4 rfl) ?_
        refine lv_iconst (v := (-1)) hx hb dX6_fairFor_62 (by decide) ?_
        refine lv_icmp_eq (tgt := 73) hx hb dX6_fairFor_63 (by decide) (fun c4 => ?_) (fun c4 => ?_)
        · refine lv_iconst (v := 1) hx hb dX6_fairFor_73 (by decide) ?_
          refine lv_goto (tgt := 78) hx hb dX6_fairFor_74 (by decide) ?_
          refine lv_istore (lv' := [(7, .int 1), (6, .int (fdf R j (ld R * R (8 + 10 * j) / rat R 3) k)), (0, .ref (μ 0)), (1, .int (nI j)), (2, .int (ld R * R (8 + 10 * j) / rat R 3)), (3, .int bs), (4, .int ls9), (5, .int (nI (4700 + k)))]) hx hb dX6_fairFor_78 hl (by decide) rfl (fun ls hl => ?_)
          refine lv_iload hx hb dX6_fairFor_80 (lv_at hl 0 rfl) ?_
          refine lv_if_eq (tgt := 90) hx hb dX6_fairFor_82 (by decide) (fun c5 => absurd c5 (by decide)) (fun c5 => ?_)
          refine lv_iload hx hb dX6_fairFor_85 (lv_at hl 7 rfl) ?_
          refine lv_goto (tgt := 91) hx hb dX6_fairFor_87 (by decide) ?_
          refine lv_istore_n (lv' := [(3, .int (nI (4700 + k))), (7, .int 1), (6, .int (fdf R j (ld R * R (8 + 10 * j) / rat R 3) k)), (0, .ref (μ 0)), (1, .int (nI j)), (2, .int (ld R * R (8 + 10 * j) / rat R 3)), (4, .int ls9), (5, .int (nI (4700 + k)))]) hx hb dX6_fairFor_91 rfl hl (by decide) rfl (fun ls hl => ?_)
          refine lv_iload hx hb dX6_fairFor_92 (lv_at hl 1 rfl) ?_
          refine lv_if_eq (tgt := 102) hx hb dX6_fairFor_94 (by decide) (fun c6 => absurd c6 (by decide)) (fun c6 => ?_)
          refine lv_iload hx hb dX6_fairFor_97 (lv_at hl 2 rfl) ?_
          refine lv_goto (tgt := 104) hx hb dX6_fairFor_99 (by decide) ?_
          refine lv_istore (lv' := [(4, .int (fdf R j (ld R * R (8 + 10 * j) / rat R 3) k)), (3, .int (nI (4700 + k))), (7, .int 1), (6, .int (fdf R j (ld R * R (8 + 10 * j) / rat R 3) k)), (0, .ref (μ 0)), (1, .int (nI j)), (2, .int (ld R * R (8 + 10 * j) / rat R 3)), (5, .int (nI (4700 + k)))]) hx hb dX6_fairFor_104 hl (by decide) rfl (fun ls hl => ?_)
          refine lv_iinc (v := nI (4700 + (k + 1))) (lv' := [(5, .int (nI (4700 + (k + 1)))), (4, .int (fdf R j (ld R * R (8 + 10 * j) / rat R 3) k)), (3, .int (nI (4700 + k))), (7, .int 1), (6, .int (fdf R j (ld R * R (8 + 10 * j) / rat R 3) k)), (0, .ref (μ 0)), (1, .int (nI j)), (2, .int (ld R * R (8 + 10 * j) / rat R 3))]) hx hb dX6_fairFor_106 hl (k := 7) rfl (nI_1 (4700 + k)) (by decide) rfl (fun ls hl => ?_)
          refine lv_goto (tgt := 38) hx hb dX6_fairFor_109 (by decide) ?_
          exact ih38 (k + 1) (nI (4700 + k)) (fdf R j (ld R * R (8 + 10 * j) / rat R 3) k) H5 (by omega) (by rw [fbl, hbs]; exact if_pos c4) ⟨_, _, hM⟩ _ hS _ (lv_sub hl [5, 6, 7, 2, 1, 0] rfl)
        refine lv_iload hx hb dX6_fairFor_66 (lv_at hl 0 rfl) ?_
        refine lv_iload hx hb dX6_fairFor_68 (lv_at hl 5 rfl) ?_
        refine lv_icmp_ge (tgt := 77) hx hb dX6_fairFor_70 (by decide) (fun c7 => ?_) (fun c7 => ?_)
        · refine lv_iconst (v := 0) hx hb dX6_fairFor_77 (by decide) ?_
          refine lv_istore (lv' := [(7, .int 0), (6, .int (fdf R j (ld R * R (8 + 10 * j) / rat R 3) k)), (0, .ref (μ 0)), (1, .int (nI j)), (2, .int (ld R * R (8 + 10 * j) / rat R 3)), (3, .int bs), (4, .int ls9), (5, .int (nI (4700 + k)))]) hx hb dX6_fairFor_78 hl (by decide) rfl (fun ls hl => ?_)
          refine lv_iload hx hb dX6_fairFor_80 (lv_at hl 0 rfl) ?_
          refine lv_if_eq (tgt := 90) hx hb dX6_fairFor_82 (by decide) (fun c8 => ?_) (fun c8 => absurd (by decide) c8)
          refine lv_iload_n hx hb dX6_fairFor_90 rfl (lv_at hl 5 rfl) ?_
          refine lv_istore_n (lv' := [(3, .int bs), (7, .int 0), (6, .int (fdf R j (ld R * R (8 + 10 * j) / rat R 3) k)), (0, .ref (μ 0)), (1, .int (nI j)), (2, .int (ld R * R (8 + 10 * j) / rat R 3)), (4, .int ls9), (5, .int (nI (4700 + k)))]) hx hb dX6_fairFor_91 rfl hl (by decide) rfl (fun ls hl => ?_)
          refine lv_iload hx hb dX6_fairFor_92 (lv_at hl 1 rfl) ?_
          refine lv_if_eq (tgt := 102) hx hb dX6_fairFor_94 (by decide) (fun c9 => ?_) (fun c9 => absurd (by decide) c9)
          refine lv_iload hx hb dX6_fairFor_102 (lv_at hl 6 rfl) ?_
          refine lv_istore (lv' := [(4, .int ls9), (3, .int bs), (7, .int 0), (6, .int (fdf R j (ld R * R (8 + 10 * j) / rat R 3) k)), (0, .ref (μ 0)), (1, .int (nI j)), (2, .int (ld R * R (8 + 10 * j) / rat R 3)), (5, .int (nI (4700 + k)))]) hx hb dX6_fairFor_104 hl (by decide) rfl (fun ls hl => ?_)
          refine lv_iinc (v := nI (4700 + (k + 1))) (lv' := [(5, .int (nI (4700 + (k + 1)))), (4, .int ls9), (3, .int bs), (7, .int 0), (6, .int (fdf R j (ld R * R (8 + 10 * j) / rat R 3) k)), (0, .ref (μ 0)), (1, .int (nI j)), (2, .int (ld R * R (8 + 10 * j) / rat R 3))]) hx hb dX6_fairFor_106 hl (k := 7) rfl (nI_1 (4700 + k)) (by decide) rfl (fun ls hl => ?_)
          refine lv_goto (tgt := 38) hx hb dX6_fairFor_109 (by decide) ?_
          exact ih38 (k + 1) bs ls9 H5 (by omega) (by rw [fbl, hbs]; exact (if_neg c4).trans (if_neg (Int32.not_lt.mpr c7))) ⟨_, _, hM⟩ _ hS _ (lv_sub hl [5, 6, 7, 2, 1, 0] rfl)
        refine lv_iconst (v := 1) hx hb dX6_fairFor_73 (by decide) ?_
        refine lv_goto (tgt := 78) hx hb dX6_fairFor_74 (by decide) ?_
        refine lv_istore (lv' := [(7, .int 1), (6, .int (fdf R j (ld R * R (8 + 10 * j) / rat R 3) k)), (0, .ref (μ 0)), (1, .int (nI j)), (2, .int (ld R * R (8 + 10 * j) / rat R 3)), (3, .int bs), (4, .int ls9), (5, .int (nI (4700 + k)))]) hx hb dX6_fairFor_78 hl (by decide) rfl (fun ls hl => ?_)
        refine lv_iload hx hb dX6_fairFor_80 (lv_at hl 0 rfl) ?_
        refine lv_if_eq (tgt := 90) hx hb dX6_fairFor_82 (by decide) (fun c10 => absurd c10 (by decide)) (fun c10 => ?_)
        refine lv_iload hx hb dX6_fairFor_85 (lv_at hl 7 rfl) ?_
        refine lv_goto (tgt := 91) hx hb dX6_fairFor_87 (by decide) ?_
        refine lv_istore_n (lv' := [(3, .int (nI (4700 + k))), (7, .int 1), (6, .int (fdf R j (ld R * R (8 + 10 * j) / rat R 3) k)), (0, .ref (μ 0)), (1, .int (nI j)), (2, .int (ld R * R (8 + 10 * j) / rat R 3)), (4, .int ls9), (5, .int (nI (4700 + k)))]) hx hb dX6_fairFor_91 rfl hl (by decide) rfl (fun ls hl => ?_)
        refine lv_iload hx hb dX6_fairFor_92 (lv_at hl 1 rfl) ?_
        refine lv_if_eq (tgt := 102) hx hb dX6_fairFor_94 (by decide) (fun c11 => absurd c11 (by decide)) (fun c11 => ?_)
        refine lv_iload hx hb dX6_fairFor_97 (lv_at hl 2 rfl) ?_
        refine lv_goto (tgt := 104) hx hb dX6_fairFor_99 (by decide) ?_
        refine lv_istore (lv' := [(4, .int (fdf R j (ld R * R (8 + 10 * j) / rat R 3) k)), (3, .int (nI (4700 + k))), (7, .int 1), (6, .int (fdf R j (ld R * R (8 + 10 * j) / rat R 3) k)), (0, .ref (μ 0)), (1, .int (nI j)), (2, .int (ld R * R (8 + 10 * j) / rat R 3)), (5, .int (nI (4700 + k)))]) hx hb dX6_fairFor_104 hl (by decide) rfl (fun ls hl => ?_)
        refine lv_iinc (v := nI (4700 + (k + 1))) (lv' := [(5, .int (nI (4700 + (k + 1)))), (4, .int (fdf R j (ld R * R (8 + 10 * j) / rat R 3) k)), (3, .int (nI (4700 + k))), (7, .int 1), (6, .int (fdf R j (ld R * R (8 + 10 * j) / rat R 3) k)), (0, .ref (μ 0)), (1, .int (nI j)), (2, .int (ld R * R (8 + 10 * j) / rat R 3))]) hx hb dX6_fairFor_106 hl (k := 7) rfl (nI_1 (4700 + k)) (by decide) rfl (fun ls hl => ?_)
        refine lv_goto (tgt := 38) hx hb dX6_fairFor_109 (by decide) ?_
        exact ih38 (k + 1) (nI (4700 + k)) (fdf R j (ld R * R (8 + 10 * j) / rat R 3) k) H5 (by omega) (by rw [fbl, hbs]; exact (if_neg c4).trans (if_pos (Int32.not_le.mp c7))) ⟨_, _, hM⟩ _ hS _ (lv_sub hl [5, 6, 7, 2, 1, 0] rfl)
    exact loop38 601 0 ((-1)) 0 s.heap rfl rfl ⟨_, _, hM⟩ _ hS _ (lv_sub hl [4, 5, 3, 2, 1, 0] rfl)
  refine lv_iconst (v := (-1)) hx hb dX6_fairFor_9 (by decide) ?_
  exact W.iret hx hb hr (fun t ht hW => ⟨⟨-1, s.heap, rfl, ⟨by rw [fair, if_pos c1], _, _, hM⟩, ht⟩, hS.F ht⟩) hS.2.2 dX6_fairFor_10
