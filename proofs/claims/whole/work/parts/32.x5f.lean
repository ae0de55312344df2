set_option maxHeartbeats 600000 in
set_option maxRecDepth 100000 in
theorem c_X5_mixedWithSet (l : Launch) (D : va_G) (G : Nat → ClassId) (α : Nat → Nat) (w : Nat → Nat) (R RT RS : Nat → Int32) (kp : Int32) (sv : Nat → Nat → Int32) (n : Nat) (F : Nat → Int32) (len : Nat) (j : Nat) (h9 : Int64) (H : Heap) (hα : inj 115 α) (hw : pm w) (hD : DP D G α w R RT RS kp sv n F len H) (hbz : bz R) (hm : mono R) (hn6 : n ≤ 6) (hl6 : len ≤ 60) (hj : j < 3) (hm2 : mono (usp R j 5050)) (hmp : ∀ k, k ≤ 501 → mono (pt R k)) (hms : ∀ k, k ≤ 600 → mono (usp R j (nI (4700 + k)))) : Met l yX5_mixedWithSet wsX5_mixedWithSet ({ frames := 5, cells := 0, slots := 0, locals := 114 } : Room) (va_Pc [.ref (α 0), .long h9, .int (nI j)] (CX D G H)) (QL (A5 α) (fun r h => mws R j h9 = r ∧ DW D G α R RS kp sv n F len h)) 0 0 (A5 α) := by
  refine Met.ofW (cc := cX5_mixedWithSet) (maxL := 7) (ret := (some .long)) (by decide) rfl ?_
  intro p e s m args below meth c s₁ B0 hml hv
  obtain ⟨rfl, rfl, hK, hN⟩ := hv
  have hx := B0.exec
  have hb := B0.bytes
  have hr := B0.returns
  have hts := atoms_spec (ws := wsX5_mixedWithSet) B0.pre
  have hown : s.vm.findClass RX5 = some m.cls := findClass_of_methodNamed B0.named
  have hlocks := B0.notSynchronized
  have hF : CallFix p m c cX5_mixedWithSet 7 s ([.ref (α 0), .long h9, .int (nI j)] : List Value).toArray wsX5_mixedWithSet RX5 := ⟨hx, hb, hml, hown, hts⟩
  have hS : va_S (A5 α) s.heap s.heap [] := va_S.rf
  have hl := lv_entry ([.ref (α 0), .long h9, .int (nI j)]) (n := 7) (Nat.le_of_ble_eq_true rfl)
  rw [lg_entry_eq]
  generalize (lg_sl ([.ref (α 0), .long h9, .int (nI j)]) ++ List.replicate (7 - (lg_sl ([.ref (α 0), .long h9, .int (nI j)])).length) Slot.unset).toArray = ls at hl ⊢
  have hl : lv_has ls 7 [(0, .ref (α 0)), (1, .long h9), (3, .int (nI j))] := hl
  refine lv_lload_n hx hb dX5_mixedWithSet_0 rfl (lv_at hl 1 rfl) ?_
  refine lv_lstore (lv' := [(4, .long h9), (0, .ref (α 0)), (1, .long h9), (3, .int (nI j))]) hx hb dX5_mixedWithSet_1 hl (by decide) rfl (fun ls hl => ?_)
  refine lv_iconst (v := 0) hx hb dX5_mixedWithSet_3 (by decide) ?_
  refine lv_istore (lv' := [(6, .int 0), (4, .long h9), (0, .ref (α 0)), (1, .long h9), (3, .int (nI j))]) hx hb dX5_mixedWithSet_4 hl (by decide) rfl (fun ls hl => ?_)
  have loop6 : ∀ (m9 : Nat) (i : Nat) (_ : i + m9 = 13) (locs : List Loc) (_ : va_S (A5 α) s.heap s.heap locs) (ls : Array Slot) (_ : lv_has ls 7 [(0, .ref (α 0)), (3, .int (nI j)), (4, .long (fo (fun k => tset R j (nI k)) i h9)), (6, .int (nI i))]), W p l e (headSpec wsX5_mixedWithSet ({ frames := 5, cells := 0, slots := 0, locals := 114 } : Room)).room s m ([.ref (α 0), .long h9, .int (nI j)] : List Value).toArray below meth c s.heap locs 0 0 (MQ below (QL (A5 α) (fun r h => mws R j h9 = r ∧ DW D G α R RS kp sv n F len h)) ([.ref (α 0), .long h9, .int (nI j)] : List Value).toArray s 0 0 (A5 α)) (F0 m 6 ls []) := by
    intro m9
    induction m9 with
    | zero =>
      intro i hini locs hS ls hl
      obtain rfl : i = 13 := by omega
      refine lv_iload hx hb dX5_mixedWithSet_6 (lv_at hl 3 rfl) ?_
      refine lv_bipush (v := 12) hx hb dX5_mixedWithSet_8 (by decide) ?_
      refine lv_icmp_gt (tgt := 34) hx hb dX5_mixedWithSet_10 (by decide) (fun c1 => ?_) (fun c1 => absurd (nI_lt (a := 12) (b := 13) (by omega) (by omega)) c1)
      refine lv_iconst (v := 0) hx hb dX5_mixedWithSet_34 (by decide) ?_
      refine lv_istore (lv' := [(6, .int 0), (0, .ref (α 0)), (3, .int (nI j)), (4, .long (fo (fun k => tset R j (nI k)) 13 h9))]) hx hb dX5_mixedWithSet_35 hl (by decide) rfl (fun ls hl => ?_)
      have loop37 : ∀ (m8 : Nat) (i2 : Nat) (Hh : Heap) (_ : i2 + m8 = 3) (_ : DW D G α R RS kp sv n F len Hh) (locs : List Loc) (_ : va_S (A5 α) s.heap Hh locs) (ls : Array Slot) (_ : lv_has ls 7 [(0, .ref (α 0)), (3, .int (nI j)), (4, .long (fo (fun k => tif R j 5050 (nI k)) i2 (fo (fun k => tset R j (nI k)) 13 h9))), (6, .int (nI i2))]), W p l e (headSpec wsX5_mixedWithSet ({ frames := 5, cells := 0, slots := 0, locals := 114 } : Room)).room s m ([.ref (α 0), .long h9, .int (nI j)] : List Value).toArray below meth c Hh locs 0 0 (MQ below (QL (A5 α) (fun r h => mws R j h9 = r ∧ DW D G α R RS kp sv n F len h)) ([.ref (α 0), .long h9, .int (nI j)] : List Value).toArray s 0 0 (A5 α)) (F0 m 37 ls []) := by
        intro m8
        induction m8 with
        | zero =>
          intro i2 Hh hini2 hDWi2 locs hS ls hl
          obtain ⟨w, RT, hw, hD⟩ := hDWi2
          obtain rfl : i2 = 3 := by omega
          refine lv_iload hx hb dX5_mixedWithSet_37 (lv_at hl 3 rfl) ?_
          refine lv_iconst (v := 2) hx hb dX5_mixedWithSet_39 (by decide) ?_
          refine lv_icmp_gt (tgt := 67) hx hb dX5_mixedWithSet_40 (by decide) (fun c2 => ?_) (fun c2 => absurd (nI_lt (a := 2) (b := 3) (by omega) (by omega)) c2)
          refine lv_lload hx hb dX5_mixedWithSet_67 (lv_at hl 2 rfl) ?_
          refine lv_aload_n hx hb dX5_mixedWithSet_69 rfl (lv_at hl 0 rfl) ?_
          refine lv_iload_n hx hb dX5_mixedWithSet_70 rfl (lv_at hl 1 rfl) ?_
          refine dp_Vi hF hK hN (c_X5_ticksUntilClosing l D G α w R RT RS kp sv n F len j _ hα hw hD hbz hm hn6 hl6 hj hmp) (cwV 1 hts gX5_mixedWithSet_X5_ticksUntilClosing rfl rfl rfl (by decide +kernel) ⟨Nat.le_of_ble_eq_true rfl, Nat.le_of_ble_eq_true rfl⟩) (dp_recv hK hD.1 rfl) hS (fun q hq => hq) [.long (fo (fun k => tif R j 5050 (nI k)) 3 (fo (fun k => tset R j (nI k)) 13 h9))] rfl rfl hl.1 (Nat.le_of_ble_eq_true rfl) dX5_mixedWithSet_71 ⟨Nat.le_of_ble_eq_true rfl, Nat.le_of_ble_eq_true rfl⟩ (fun rH1 H1 locs hp hzH1 hkH1 hS => ?_)
          obtain ⟨rfl, w, RT, hw, hD⟩ := hp
          refine lv_i2l hx hb dX5_mixedWithSet_74 rfl ?_
          refine dp_Sl hF hK hN (c_X5_mixed l D G (fo (fun k => tif R j 5050 (nI k)) 3 (fo (fun k => tset R j (nI k)) 13 h9)) (Int32.toInt64 (cin R j)) _) (va_cwS 2 hts gX5_mixedWithSet_X5_mixed rfl rfl rfl (by decide +kernel) ⟨Nat.le_of_ble_eq_true rfl, Nat.le_of_ble_eq_true rfl⟩) hS nA_i [] rfl rfl hl.1 (Nat.le_of_ble_eq_true rfl) dX5_mixedWithSet_75 ⟨Nat.le_of_ble_eq_true rfl, Nat.le_of_ble_eq_true rfl⟩ (fun rH2 H2 locs hp hzH2 hkH2 hS => ?_)
          obtain ⟨rfl, rfl⟩ := hp
          refine lv_lstore (lv' := [(4, .long (31 * (fo (fun k => tif R j 5050 (nI k)) 3 (fo (fun k => tset R j (nI k)) 13 h9)) + (Int32.toInt64 (cin R j)))), (0, .ref (α 0)), (3, .int (nI j)), (6, .int (nI 3))]) hx hb dX5_mixedWithSet_78 hl (by decide) rfl (fun ls hl => ?_)
          refine lv_lload hx hb dX5_mixedWithSet_80 (lv_at hl 0 rfl) ?_
          refine lv_aload_n hx hb dX5_mixedWithSet_82 rfl (lv_at hl 1 rfl) ?_
          refine lv_iload_n hx hb dX5_mixedWithSet_83 rfl (lv_at hl 2 rfl) ?_
          refine dp_Vi hF hK hN (c_X5_speedForFairShare l D G α w R RT RS kp sv n F len j _ hα hw hD hbz hm hn6 hl6 hj hms) (cwV 1 hts gX5_mixedWithSet_X5_speedForFairShare rfl rfl rfl (by decide +kernel) ⟨Nat.le_of_ble_eq_true rfl, Nat.le_of_ble_eq_true rfl⟩) (dp_recv hK hD.1 rfl) hS (fun q hq => hq) [.long (31 * (fo (fun k => tif R j 5050 (nI k)) 3 (fo (fun k => tset R j (nI k)) 13 h9)) + (Int32.toInt64 (cin R j)))] rfl rfl hl.1 (Nat.le_of_ble_eq_true rfl) dX5_mixedWithSet_84 ⟨Nat.le_of_ble_eq_true rfl, Nat.le_of_ble_eq_true rfl⟩ (fun rH3 H3 locs hp hzH3 hkH3 hS => ?_)
          obtain ⟨rfl, w, RT, hw, hD⟩ := hp
          refine lv_i2l hx hb dX5_mixedWithSet_87 rfl ?_
          refine dp_Sl hF hK hN (c_X5_mixed l D G (31 * (fo (fun k => tif R j 5050 (nI k)) 3 (fo (fun k => tset R j (nI k)) 13 h9)) + (Int32.toInt64 (cin R j))) (Int32.toInt64 (fair R j)) _) (va_cwS 2 hts gX5_mixedWithSet_X5_mixed rfl rfl rfl (by decide +kernel) ⟨Nat.le_of_ble_eq_true rfl, Nat.le_of_ble_eq_true rfl⟩) hS nA_i [] rfl rfl hl.1 (Nat.le_of_ble_eq_true rfl) dX5_mixedWithSet_88 ⟨Nat.le_of_ble_eq_true rfl, Nat.le_of_ble_eq_true rfl⟩ (fun rH4 H4 locs hp hzH4 hkH4 hS => ?_)
          obtain ⟨rfl, rfl⟩ := hp
          exact W.lret hx hb hr (fun t ht hW => ⟨⟨31 * (31 * (fo (fun k => tif R j 5050 (nI k)) 3 (fo (fun k => tset R j (nI k)) 13 h9)) + (Int32.toInt64 (cin R j))) + (Int32.toInt64 (fair R j)), H3, rfl, ⟨rfl, ⟨w, _, hw, hD⟩⟩, ht⟩, hS.F ht⟩) hS.2.2 dX5_mixedWithSet_91
        | succ m8 ih37 =>
          intro i2 Hh hini2 hDWi2 locs hS ls hl
          obtain ⟨w, RT, hw, hD⟩ := hDWi2
          refine lv_iload hx hb dX5_mixedWithSet_37 (lv_at hl 3 rfl) ?_
          refine lv_iconst (v := 2) hx hb dX5_mixedWithSet_39 (by decide) ?_
          refine lv_icmp_gt (tgt := 67) hx hb dX5_mixedWithSet_40 (by decide) (fun c3 => absurd c3 (nI_nlt (a := 2) (b := i2) (by omega) (by omega))) (fun c3 => ?_)
          refine lv_lload hx hb dX5_mixedWithSet_43 (lv_at hl 2 rfl) ?_
          refine lv_aload_n hx hb dX5_mixedWithSet_45 rfl (lv_at hl 0 rfl) ?_
          refine lv_iload_n hx hb dX5_mixedWithSet_46 rfl (lv_at hl 1 rfl) ?_
          refine lv_sipush (v := 5050) hx hb dX5_mixedWithSet_47 (by decide) ?_
          refine lv_iload hx hb dX5_mixedWithSet_50 (lv_at hl 3 rfl) ?_
          refine dp_Vi hF hK hN (c_X5_tellIfSpeed l D G α w R RT RS kp sv n F len j 5050 (nI i2) _ hα hw hD hbz hm hn6 hl6 hj hm2) (cwV 3 hts gX5_mixedWithSet_X5_tellIfSpeed rfl rfl rfl (by decide +kernel) ⟨Nat.le_of_ble_eq_true rfl, Nat.le_of_ble_eq_true rfl⟩) (dp_recv hK hD.1 rfl) hS (fun q hq => hq) [.long (fo (fun k => tif R j 5050 (nI k)) i2 (fo (fun k => tset R j (nI k)) 13 h9))] rfl rfl hl.1 (Nat.le_of_ble_eq_true rfl) dX5_mixedWithSet_52 ⟨Nat.le_of_ble_eq_true rfl, Nat.le_of_ble_eq_true rfl⟩ (fun rH5 H5 locs hp hzH5 hkH5 hS => ?_)
          obtain ⟨rfl, w, RT, hw, hD⟩ := hp
          refine lv_i2l hx hb dX5_mixedWithSet_55 rfl ?_
          refine dp_Sl hF hK hN (c_X5_mixed l D G (fo (fun k => tif R j 5050 (nI k)) i2 (fo (fun k => tset R j (nI k)) 13 h9)) (Int32.toInt64 (tif R j 5050 (nI i2))) _) (va_cwS 2 hts gX5_mixedWithSet_X5_mixed rfl rfl rfl (by decide +kernel) ⟨Nat.le_of_ble_eq_true rfl, Nat.le_of_ble_eq_true rfl⟩) hS nA_i [] rfl rfl hl.1 (Nat.le_of_ble_eq_true rfl) dX5_mixedWithSet_56 ⟨Nat.le_of_ble_eq_true rfl, Nat.le_of_ble_eq_true rfl⟩ (fun rH6 H6 locs hp hzH6 hkH6 hS => ?_)
          obtain ⟨rfl, rfl⟩ := hp
          refine lv_lstore (lv' := [(4, .long (31 * (fo (fun k => tif R j 5050 (nI k)) i2 (fo (fun k => tset R j (nI k)) 13 h9)) + (Int32.toInt64 (tif R j 5050 (nI i2))))), (0, .ref (α 0)), (3, .int (nI j)), (6, .int (nI i2))]) hx hb dX5_mixedWithSet_59 hl (by decide) rfl (fun ls hl => ?_)
          refine lv_iinc (v := nI (i2 + 1)) (lv' := [(6, .int (nI (i2 + 1))), (4, .long (31 * (fo (fun k => tif R j 5050 (nI k)) i2 (fo (fun k => tset R j (nI k)) 13 h9)) + (Int32.toInt64 (tif R j 5050 (nI i2))))), (0, .ref (α 0)), (3, .int (nI j))]) hx hb dX5_mixedWithSet_61 hl (k := 3) rfl (nI_1 i2) (by decide) rfl (fun ls hl => ?_)
          refine lv_goto (tgt := 37) hx hb dX5_mixedWithSet_64 (by decide) ?_
          exact ih37 (i2 + 1) H5 (by omega) ⟨w, _, hw, hD⟩ _ hS _ (lv_sub hl [2, 3, 1, 0] rfl)
      exact loop37 3 0 s.heap rfl ⟨w, _, hw, hD⟩ _ hS _ (lv_sub hl [1, 2, 3, 0] rfl)
    | succ m9 ih6 =>
      intro i hini locs hS ls hl
      refine lv_iload hx hb dX5_mixedWithSet_6 (lv_at hl 3 rfl) ?_
      refine lv_bipush (v := 12) hx hb dX5_mixedWithSet_8 (by decide) ?_
      refine lv_icmp_gt (tgt := 34) hx hb dX5_mixedWithSet_10 (by decide) (fun c4 => absurd c4 (nI_nlt (a := 12) (b := i) (by omega) (by omega))) (fun c4 => ?_)
      refine lv_lload hx hb dX5_mixedWithSet_13 (lv_at hl 2 rfl) ?_
      refine lv_aload_n hx hb dX5_mixedWithSet_15 rfl (lv_at hl 0 rfl) ?_
      refine lv_iload_n hx hb dX5_mixedWithSet_16 rfl (lv_at hl 1 rfl) ?_
      refine lv_iload hx hb dX5_mixedWithSet_17 (lv_at hl 3 rfl) ?_
      refine dp_Vi hF hK hN (c_X5_tellOfSet l D G α w R RT RS kp sv n F len j (nI i) _ hα hw hD hbz hm hn6 hl6 hj) (cwV 2 hts gX5_mixedWithSet_X5_tellOfSet rfl rfl rfl (by decide +kernel) ⟨Nat.le_of_ble_eq_true rfl, Nat.le_of_ble_eq_true rfl⟩) (dp_recv hK hD.1 rfl) hS nA_i [.long (fo (fun k => tset R j (nI k)) i h9)] rfl rfl hl.1 (Nat.le_of_ble_eq_true rfl) dX5_mixedWithSet_19 ⟨Nat.le_of_ble_eq_true rfl, Nat.le_of_ble_eq_true rfl⟩ (fun rH7 H7 locs hp hzH7 hkH7 hS => ?_)
      obtain ⟨rfl, rfl⟩ := hp
      refine lv_i2l hx hb dX5_mixedWithSet_22 rfl ?_
      refine dp_Sl hF hK hN (c_X5_mixed l D G (fo (fun k => tset R j (nI k)) i h9) (Int32.toInt64 (tset R j (nI i))) _) (va_cwS 2 hts gX5_mixedWithSet_X5_mixed rfl rfl rfl (by decide +kernel) ⟨Nat.le_of_ble_eq_true rfl, Nat.le_of_ble_eq_true rfl⟩) hS nA_i [] rfl rfl hl.1 (Nat.le_of_ble_eq_true rfl) dX5_mixedWithSet_23 ⟨Nat.le_of_ble_eq_true rfl, Nat.le_of_ble_eq_true rfl⟩ (fun rH8 H8 locs hp hzH8 hkH8 hS => ?_)
      obtain ⟨rfl, rfl⟩ := hp
      refine lv_lstore (lv' := [(4, .long (31 * (fo (fun k => tset R j (nI k)) i h9) + (Int32.toInt64 (tset R j (nI i))))), (0, .ref (α 0)), (3, .int (nI j)), (6, .int (nI i))]) hx hb dX5_mixedWithSet_26 hl (by decide) rfl (fun ls hl => ?_)
      refine lv_iinc (v := nI (i + 1)) (lv' := [(6, .int (nI (i + 1))), (4, .long (31 * (fo (fun k => tset R j (nI k)) i h9) + (Int32.toInt64 (tset R j (nI i))))), (0, .ref (α 0)), (3, .int (nI j))]) hx hb dX5_mixedWithSet_28 hl (k := 3) rfl (nI_1 i) (by decide) rfl (fun ls hl => ?_)
      refine lv_goto (tgt := 6) hx hb dX5_mixedWithSet_31 (by decide) ?_
      exact ih6 (i + 1) (by omega) _ hS _ (lv_sub hl [2, 3, 1, 0] rfl)
  exact loop6 13 0 rfl _ hS _ (lv_sub hl [2, 4, 1, 0] rfl)

set_option maxHeartbeats 600000 in
set_option maxRecDepth 100000 in
theorem c_X5_digest (l : Launch) (D : va_G) (G : Nat → ClassId) (α : Nat → Nat) (w : Nat → Nat) (R RT RS : Nat → Int32) (kp : Int32) (sv : Nat → Nat → Int32) (n : Nat) (F : Nat → Int32) (len : Nat)  (H : Heap) (hα : inj 115 α) (hw : pm w) (hD : DP D G α w R RT RS kp sv n F len H) (hbz : bz R) (hm : mono R) (hn6 : n ≤ 6) (hl6 : len ≤ 60) (hm2s : ∀ j, j < 3 → mono (usp R j 5050)) (hmp : ∀ k, k ≤ 501 → mono (pt R k)) (hms : ∀ j, j < 3 → ∀ k, k ≤ 600 → mono (usp R j (nI (4700 + k)))) (hok : okD (ldsh R)) (hokF : okF (mnpw R)) : Met l yX5_digest wsX5_digest ({ frames := 6, cells := 0, slots := 0, locals := 140 } : Room) (va_Pc [.ref (α 0)] (CX D G H)) (QL (A5 α) (fun r h => dig R kp n F len (3701) = r ∧ DW D G α R RS kp sv n F len h)) 0 0 (A5 α) := by
  refine Met.ofW (cc := cX5_digest) (maxL := 5) (ret := (some .long)) (by decide) rfl ?_
  intro p e s m args below meth c s₁ B0 hml hv
  obtain ⟨rfl, rfl, hK, hN⟩ := hv
  have hx := B0.exec
  have hb := B0.bytes
  have hr := B0.returns
  have hts := atoms_spec (ws := wsX5_digest) B0.pre
  have hown : s.vm.findClass RX5 = some m.cls := findClass_of_methodNamed B0.named
  have hlocks := B0.notSynchronized
  have hF : CallFix p m c cX5_digest 5 s ([.ref (α 0)] : List Value).toArray wsX5_digest RX5 := ⟨hx, hb, hml, hown, hts⟩
  have hS : va_S (A5 α) s.heap s.heap [] := va_S.rf
  have hl := lv_entry ([.ref (α 0)]) (n := 5) (Nat.le_of_ble_eq_true rfl)
  rw [lg_entry_eq]
  generalize (lg_sl ([.ref (α 0)]) ++ List.replicate (5 - (lg_sl ([.ref (α 0)])).length) Slot.unset).toArray = ls at hl ⊢
  have hl : lv_has ls 5 [(0, .ref (α 0))] := hl
  refine lv_ldc2 (v := (3701)) hx hb hown (hts (.constantLong RX5 231 (3701)) (List.mem_of_getElem? (i := 1) rfl)) dX5_digest_0 ?_
  refine lv_lstore_n (lv' := [(1, .long 3701), (0, .ref (α 0))]) hx hb dX5_digest_3 rfl hl (by decide) rfl (fun ls hl => ?_)
  refine lv_iconst (v := 0) hx hb dX5_digest_4 (by decide) ?_
  refine lv_istore_n (lv' := [(3, .int 0), (1, .long 3701), (0, .ref (α 0))]) hx hb dX5_digest_5 rfl hl (by decide) rfl (fun ls hl => ?_)
  have loop6 : ∀ (m9 : Nat) (i : Nat) (_ : i + m9 = 12) (locs : List Loc) (_ : va_S (A5 α) s.heap s.heap locs) (ls : Array Slot) (_ : lv_has ls 5 [(0, .ref (α 0)), (1, .long (fo (fun k => tcnt R n (nI k)) i (3701))), (3, .int (nI i))]), W p l e (headSpec wsX5_digest ({ frames := 6, cells := 0, slots := 0, locals := 140 } : Room)).room s m ([.ref (α 0)] : List Value).toArray below meth c s.heap locs 0 0 (MQ below (QL (A5 α) (fun r h => dig R kp n F len (3701) = r ∧ DW D G α R RS kp sv n F len h)) ([.ref (α 0)] : List Value).toArray s 0 0 (A5 α)) (F0 m 6 ls []) := by
    intro m9
    induction m9 with
    | zero =>
      intro i hini locs hS ls hl
      obtain rfl : i = 12 := by omega
      refine lv_iload_n hx hb dX5_digest_6 rfl (lv_at hl 2 rfl) ?_
      refine lv_bipush (v := 11) hx hb dX5_digest_7 (by decide) ?_
      refine lv_icmp_gt (tgt := 29) hx hb dX5_digest_9 (by decide) (fun c1 => ?_) (fun c1 => absurd (nI_lt (a := 11) (b := 12) (by omega) (by omega)) c1)
      refine lv_iconst (v := 0) hx hb dX5_digest_29 (by decide) ?_
      refine lv_istore_n (lv' := [(3, .int 0), (0, .ref (α 0)), (1, .long (fo (fun k => tcnt R n (nI k)) 12 (3701)))]) hx hb dX5_digest_30 rfl hl (by decide) rfl (fun ls hl => ?_)
      have loop31 : ∀ (m8 : Nat) (i2 : Nat) (_ : i2 + m8 = 4) (locs : List Loc) (_ : va_S (A5 α) s.heap s.heap locs) (ls : Array Slot) (_ : lv_has ls 5 [(0, .ref (α 0)), (1, .long (fo (fun k => R k) i2 (fo (fun k => tcnt R n (nI k)) 12 (3701)))), (3, .int (nI i2))]), W p l e (headSpec wsX5_digest ({ frames := 6, cells := 0, slots := 0, locals := 140 } : Room)).room s m ([.ref (α 0)] : List Value).toArray below meth c s.heap locs 0 0 (MQ below (QL (A5 α) (fun r h => dig R kp n F len (3701) = r ∧ DW D G α R RS kp sv n F len h)) ([.ref (α 0)] : List Value).toArray s 0 0 (A5 α)) (F0 m 31 ls []) := by
        intro m8
        induction m8 with
        | zero =>
          intro i2 hini2 locs hS ls hl
          obtain rfl : i2 = 4 := by omega
          refine lv_iload_n hx hb dX5_digest_31 rfl (lv_at hl 2 rfl) ?_
          refine lv_iconst (v := 4) hx hb dX5_digest_32 (by decide) ?_
          refine lv_icmp_ge (tgt := 57) hx hb dX5_digest_33 (by decide) (fun c2 => ?_) (fun c2 => absurd (nI_le (a := 4) (b := 4) (by omega) (by omega)) c2)
          refine lv_iconst (v := 0) hx hb dX5_digest_57 (by decide) ?_
          refine lv_istore_n (lv' := [(3, .int 0), (0, .ref (α 0)), (1, .long (fo (fun k => R k) 4 (fo (fun k => tcnt R n (nI k)) 12 (3701))))]) hx hb dX5_digest_58 rfl hl (by decide) rfl (fun ls hl => ?_)
          have loop59 : ∀ (m7 : Nat) (j3 : Nat) (Hh : Heap) (_ : j3 + m7 = 3) (_ : DW D G α R RS kp sv n F len Hh) (locs : List Loc) (_ : va_S (A5 α) s.heap Hh locs) (ls : Array Slot) (_ : lv_has ls 5 [(0, .ref (α 0)), (1, .long (fom R j3 (fo (fun k => R k) 4 (fo (fun k => tcnt R n (nI k)) 12 (3701))))), (3, .int (nI j3))]), W p l e (headSpec wsX5_digest ({ frames := 6, cells := 0, slots := 0, locals := 140 } : Room)).room s m ([.ref (α 0)] : List Value).toArray below meth c Hh locs 0 0 (MQ below (QL (A5 α) (fun r h => dig R kp n F len (3701) = r ∧ DW D G α R RS kp sv n F len h)) ([.ref (α 0)] : List Value).toArray s 0 0 (A5 α)) (F0 m 59 ls []) := by
            intro m7
            induction m7 with
            | zero =>
              intro j3 Hh hinj3 hDWj3 locs hS ls hl
              obtain ⟨w, RT, hw, hD⟩ := hDWj3
              obtain rfl : j3 = 3 := by omega
              refine lv_iload_n hx hb dX5_digest_59 rfl (lv_at hl 2 rfl) ?_
              refine lv_iconst (v := 3) hx hb dX5_digest_60 (by decide) ?_
              refine lv_icmp_ge (tgt := 77) hx hb dX5_digest_61 (by decide) (fun c3 => ?_) (fun c3 => absurd (nI_le (a := 3) (b := 3) (by omega) (by omega)) c3)
              refine lv_iconst (v := 0) hx hb dX5_digest_77 (by decide) ?_
              refine lv_istore_n (lv' := [(3, .int 0), (0, .ref (α 0)), (1, .long (fom R 3 (fo (fun k => R k) 4 (fo (fun k => tcnt R n (nI k)) 12 (3701)))))]) hx hb dX5_digest_78 rfl hl (by decide) rfl (fun ls hl => ?_)
              have loop79 : ∀ (m6 : Nat) (j4 : Nat) (_ : j4 + m6 = 4) (locs : List Loc) (_ : va_S (A5 α) s.heap Hh locs) (ls : Array Slot) (_ : lv_has ls 5 [(0, .ref (α 0)), (1, .long (fof R j4 (fom R 3 (fo (fun k => R k) 4 (fo (fun k => tcnt R n (nI k)) 12 (3701)))))), (3, .int (nI j4))]), W p l e (headSpec wsX5_digest ({ frames := 6, cells := 0, slots := 0, locals := 140 } : Room)).room s m ([.ref (α 0)] : List Value).toArray below meth c Hh locs 0 0 (MQ below (QL (A5 α) (fun r h => dig R kp n F len (3701) = r ∧ DW D G α R RS kp sv n F len h)) ([.ref (α 0)] : List Value).toArray s 0 0 (A5 α)) (F0 m 79 ls []) := by
                intro m6
                induction m6 with
                | zero =>
                  intro j4 hinj4 locs hS ls hl
                  obtain rfl : j4 = 4 := by omega
                  refine lv_iload_n hx hb dX5_digest_79 rfl (lv_at hl 2 rfl) ?_
                  refine lv_iconst (v := 4) hx hb dX5_digest_80 (by decide) ?_
                  refine lv_icmp_ge (tgt := 118) hx hb dX5_digest_81 (by decide) (fun c4 => ?_) (fun c4 => absurd (nI_le (a := 4) (b := 4) (by omega) (by omega)) c4)
                  refine lv_lload_n hx hb dX5_digest_118 rfl (lv_at hl 1 rfl) ?_
                  refine lv_aload_n hx hb dX5_digest_119 rfl (lv_at hl 0 rfl) ?_
                  refine dp_Vi hF hK hN (c_X5_nextTrip l D G α w R RT RS kp sv n F len  _ hα hw hD hbz hm hn6 hl6 hmp) (cwV 0 hts gX5_digest_X5_nextTrip rfl rfl rfl (by decide +kernel) ⟨Nat.le_of_ble_eq_true rfl, Nat.le_of_ble_eq_true rfl⟩) (dp_recv hK hD.1 rfl) hS (fun q hq => hq) [.long (fof R 4 (fom R 3 (fo (fun k => R k) 4 (fo (fun k => tcnt R n (nI k)) 12 (3701)))))] rfl rfl hl.1 (Nat.le_of_ble_eq_true rfl) dX5_digest_120 ⟨Nat.le_of_ble_eq_true rfl, Nat.le_of_ble_eq_true rfl⟩ (fun rH1 H1 locs hp hzH1 hkH1 hS => ?_)
                  obtain ⟨rfl, w, RT, hw, hD⟩ := hp
                  refine lv_i2l hx hb dX5_digest_123 rfl ?_
                  refine dp_Sl hF hK hN (c_X5_mixed l D G (fof R 4 (fom R 3 (fo (fun k => R k) 4 (fo (fun k => tcnt R n (nI k)) 12 (3701))))) (Int32.toInt64 (ntp R)) _) (va_cwS 2 hts gX5_digest_X5_mixed rfl rfl rfl (by decide +kernel) ⟨Nat.le_of_ble_eq_true rfl, Nat.le_of_ble_eq_true rfl⟩) hS nA_i [] rfl rfl hl.1 (Nat.le_of_ble_eq_true rfl) dX5_digest_124 ⟨Nat.le_of_ble_eq_true rfl, Nat.le_of_ble_eq_true rfl⟩ (fun rH2 H2 locs hp hzH2 hkH2 hS => ?_)
                  obtain ⟨rfl, rfl⟩ := hp
                  refine lv_lstore_n (lv' := [(1, .long (31 * (fof R 4 (fom R 3 (fo (fun k => R k) 4 (fo (fun k => tcnt R n (nI k)) 12 (3701))))) + (Int32.toInt64 (ntp R)))), (0, .ref (α 0)), (3, .int (nI 4))]) hx hb dX5_digest_127 rfl hl (by decide) rfl (fun ls hl => ?_)
                  refine lv_lload_n hx hb dX5_digest_128 rfl (lv_at hl 0 rfl) ?_
                  refine lv_aload_n hx hb dX5_digest_129 rfl (lv_at hl 1 rfl) ?_
                  refine dp_Vd hF hK hN (c_X5_loadShare l D G α w R RT RS kp sv n F len  _ hα hw hD hbz hm hn6 hl6 (fun q => by have h := okD_n hok; rw [ldsh, if_neg q] at h; exact h)) (cwV 0 hts gX5_digest_X5_loadShare rfl rfl rfl (by decide +kernel) ⟨Nat.le_of_ble_eq_true rfl, Nat.le_of_ble_eq_true rfl⟩) (dp_recv hK hD.1 rfl) hS nA_i [.long (31 * (fof R 4 (fom R 3 (fo (fun k => R k) 4 (fo (fun k => tcnt R n (nI k)) 12 (3701))))) + (Int32.toInt64 (ntp R)))] rfl rfl hl.1 (Nat.le_of_ble_eq_true rfl) dX5_digest_130 ⟨Nat.le_of_ble_eq_true rfl, Nat.le_of_ble_eq_true rfl⟩ (fun rH3 H3 locs hp hzH3 hkH3 hS => ?_)
                  obtain ⟨rfl, rfl⟩ := hp
                  refine dp_Sl hF hK hN (c_X5_bitsOfDouble l D G (ldsh R) _ hok) (va_cwS 1 hts gX5_digest_X5_bitsOfDouble rfl rfl rfl (by decide +kernel) ⟨Nat.le_of_ble_eq_true rfl, Nat.le_of_ble_eq_true rfl⟩) hS nA_i [.long (31 * (fof R 4 (fom R 3 (fo (fun k => R k) 4 (fo (fun k => tcnt R n (nI k)) 12 (3701))))) + (Int32.toInt64 (ntp R)))] rfl rfl hl.1 (Nat.le_of_ble_eq_true rfl) dX5_digest_133 ⟨Nat.le_of_ble_eq_true rfl, Nat.le_of_ble_eq_true rfl⟩ (fun rH4 H4 locs hp hzH4 hkH4 hS => ?_)
                  obtain ⟨rfl, rfl⟩ := hp
                  refine dp_Sl hF hK hN (c_X5_mixed l D G (31 * (fof R 4 (fom R 3 (fo (fun k => R k) 4 (fo (fun k => tcnt R n (nI k)) 12 (3701))))) + (Int32.toInt64 (ntp R))) ((ldsh R).toInt64) _) (va_cwS 2 hts gX5_digest_X5_mixed rfl rfl rfl (by decide +kernel) ⟨Nat.le_of_ble_eq_true rfl, Nat.le_of_ble_eq_true rfl⟩) hS nA_i [] rfl rfl hl.1 (Nat.le_of_ble_eq_true rfl) dX5_digest_136 ⟨Nat.le_of_ble_eq_true rfl, Nat.le_of_ble_eq_true rfl⟩ (fun rH5 H5 locs hp hzH5 hkH5 hS => ?_)
                  obtain ⟨rfl, rfl⟩ := hp
                  refine lv_lstore_n (lv' := [(1, .long (31 * (31 * (fof R 4 (fom R 3 (fo (fun k => R k) 4 (fo (fun k => tcnt R n (nI k)) 12 (3701))))) + (Int32.toInt64 (ntp R))) + ((ldsh R).toInt64))), (0, .ref (α 0)), (3, .int (nI 4))]) hx hb dX5_digest_139 rfl hl (by decide) rfl (fun ls hl => ?_)
                  refine lv_lload_n hx hb dX5_digest_140 rfl (lv_at hl 0 rfl) ?_
                  refine lv_aload_n hx hb dX5_digest_141 rfl (lv_at hl 1 rfl) ?_
                  refine dp_Vf hF hK hN (c_X5_meanPower l D G α w R RT RS kp sv n F len  _ hα hw hD hbz hm hn6 hl6 (fun q => by have h := okF_n hokF; rw [mnpw, if_neg q] at h; exact h)) (cwV 0 hts gX5_digest_X5_meanPower rfl rfl rfl (by decide +kernel) ⟨Nat.le_of_ble_eq_true rfl, Nat.le_of_ble_eq_true rfl⟩) (dp_recv hK hD.1 rfl) hS nA_i [.long (31 * (31 * (fof R 4 (fom R 3 (fo (fun k => R k) 4 (fo (fun k => tcnt R n (nI k)) 12 (3701))))) + (Int32.toInt64 (ntp R))) + ((ldsh R).toInt64))] rfl rfl hl.1 (Nat.le_of_ble_eq_true rfl) dX5_digest_142 ⟨Nat.le_of_ble_eq_true rfl, Nat.le_of_ble_eq_true rfl⟩ (fun rH6 H6 locs hp hzH6 hkH6 hS => ?_)
                  obtain ⟨rfl, rfl⟩ := hp
                  refine dp_Si hF hK hN (c_X5_bitsOfFloat l D G (mnpw R) _ hokF) (va_cwS 1 hts gX5_digest_X5_bitsOfFloat rfl rfl rfl (by decide +kernel) ⟨Nat.le_of_ble_eq_true rfl, Nat.le_of_ble_eq_true rfl⟩) hS nA_i [.long (31 * (31 * (fof R 4 (fom R 3 (fo (fun k => R k) 4 (fo (fun k => tcnt R n (nI k)) 12 (3701))))) + (Int32.toInt64 (ntp R))) + ((ldsh R).toInt64))] rfl rfl hl.1 (Nat.le_of_ble_eq_true rfl) dX5_digest_145 ⟨Nat.le_of_ble_eq_true rfl, Nat.le_of_ble_eq_true rfl⟩ (fun rH7 H7 locs hp hzH7 hkH7 hS => ?_)
                  obtain ⟨rfl, rfl⟩ := hp
                  refine lv_i2l hx hb dX5_digest_148 rfl ?_
                  refine dp_Sl hF hK hN (c_X5_mixed l D G (31 * (31 * (fof R 4 (fom R 3 (fo (fun k => R k) 4 (fo (fun k => tcnt R n (nI k)) 12 (3701))))) + (Int32.toInt64 (ntp R))) + ((ldsh R).toInt64)) (Int32.toInt64 ((mnpw R).toInt32)) _) (va_cwS 2 hts gX5_digest_X5_mixed rfl rfl rfl (by decide +kernel) ⟨Nat.le_of_ble_eq_true rfl, Nat.le_of_ble_eq_true rfl⟩) hS nA_i [] rfl rfl hl.1 (Nat.le_of_ble_eq_true rfl) dX5_digest_149 ⟨Nat.le_of_ble_eq_true rfl, Nat.le_of_ble_eq_true rfl⟩ (fun rH8 H8 locs hp hzH8 hkH8 hS => ?_)
                  obtain ⟨rfl, rfl⟩ := hp
                  refine lv_lstore_n (lv' := [(1, .long (31 * (31 * (31 * (fof R 4 (fom R 3 (fo (fun k => R k) 4 (fo (fun k => tcnt R n (nI k)) 12 (3701))))) + (Int32.toInt64 (ntp R))) + ((ldsh R).toInt64)) + (Int32.toInt64 ((mnpw R).toInt32)))), (0, .ref (α 0)), (3, .int (nI 4))]) hx hb dX5_digest_152 rfl hl (by decide) rfl (fun ls hl => ?_)
                  refine lv_lload_n hx hb dX5_digest_153 rfl (lv_at hl 0 rfl) ?_
                  refine lv_aload_n hx hb dX5_digest_154 rfl (lv_at hl 1 rfl) ?_
                  refine dp_get hx hb hts (dp_hin 246 rfl) hown hK hD.1 rfl 3 (by decide) (hts (.fieldLink RX5 183 "DroopBoard" "hasSnapshot" "Z") (List.mem_of_getElem? (i := 4) rfl)) rfl dX5_digest_155 ?_
                  refine dp_Si hF hK hN (c_X5_oneIf l D G kp _) (va_cwS 1 hts gX5_digest_X5_oneIf rfl rfl rfl (by decide +kernel) ⟨Nat.le_of_ble_eq_true rfl, Nat.le_of_ble_eq_true rfl⟩) hS nA_i [.long (31 * (31 * (31 * (fof R 4 (fom R 3 (fo (fun k => R k) 4 (fo (fun k => tcnt R n (nI k)) 12 (3701))))) + (Int32.toInt64 (ntp R))) + ((ldsh R).toInt64)) + (Int32.toInt64 ((mnpw R).toInt32)))] rfl rfl hl.1 (Nat.le_of_ble_eq_true rfl) dX5_digest_158 ⟨Nat.le_of_ble_eq_true rfl, Nat.le_of_ble_eq_true rfl⟩ (fun rH9 H9 locs hp hzH9 hkH9 hS => ?_)
                  obtain ⟨rfl, rfl⟩ := hp
                  refine lv_i2l hx hb dX5_digest_161 rfl ?_
                  refine dp_Sl hF hK hN (c_X5_mixed l D G (31 * (31 * (31 * (fof R 4 (fom R 3 (fo (fun k => R k) 4 (fo (fun k => tcnt R n (nI k)) 12 (3701))))) + (Int32.toInt64 (ntp R))) + ((ldsh R).toInt64)) + (Int32.toInt64 ((mnpw R).toInt32))) (Int32.toInt64 ((if kp = 0 then 0 else 1))) _) (va_cwS 2 hts gX5_digest_X5_mixed rfl rfl rfl (by decide +kernel) ⟨Nat.le_of_ble_eq_true rfl, Nat.le_of_ble_eq_true rfl⟩) hS nA_i [] rfl rfl hl.1 (Nat.le_of_ble_eq_true rfl) dX5_digest_162 ⟨Nat.le_of_ble_eq_true rfl, Nat.le_of_ble_eq_true rfl⟩ (fun rH10 H10 locs hp hzH10 hkH10 hS => ?_)
                  obtain ⟨rfl, rfl⟩ := hp
                  refine lv_lstore_n (lv' := [(1, .long (31 * (31 * (31 * (31 * (fof R 4 (fom R 3 (fo (fun k => R k) 4 (fo (fun k => tcnt R n (nI k)) 12 (3701))))) + (Int32.toInt64 (ntp R))) + ((ldsh R).toInt64)) + (Int32.toInt64 ((mnpw R).toInt32))) + (Int32.toInt64 ((if kp = 0 then 0 else 1))))), (0, .ref (α 0)), (3, .int (nI 4))]) hx hb dX5_digest_165 rfl hl (by decide) rfl (fun ls hl => ?_)
                  refine lv_lload_n hx hb dX5_digest_166 rfl (lv_at hl 0 rfl) ?_
                  refine lv_aload_n hx hb dX5_digest_167 rfl (lv_at hl 1 rfl) ?_
                  refine dp_get hx hb hts (dp_hin 246 rfl) hown hK hD.1 rfl 5 (by decide) (hts (.fieldLink RX5 32 "DroopBoard" "text" "LDroopBoard$OrderText;") (List.mem_of_getElem? (i := 5) rfl)) rfl dX5_digest_168 ?_
                  refine dp_get hx hb hts (dp_hin 257 rfl) hown hK hD.2.2.2.2.2.1 rfl 1 (by decide) (hts (.fieldLink RX5 159 "DroopBoard$OrderText" "length" "I") (List.mem_of_getElem? (i := 6) rfl)) rfl dX5_digest_171 ?_
                  refine lv_i2l hx hb dX5_digest_174 rfl ?_
                  refine dp_Sl hF hK hN (c_X5_mixed l D G (31 * (31 * (31 * (31 * (fof R 4 (fom R 3 (fo (fun k => R k) 4 (fo (fun k => tcnt R n (nI k)) 12 (3701))))) + (Int32.toInt64 (ntp R))) + ((ldsh R).toInt64)) + (Int32.toInt64 ((mnpw R).toInt32))) + (Int32.toInt64 ((if kp = 0 then 0 else 1)))) (Int32.toInt64 (nI len)) _) (va_cwS 2 hts gX5_digest_X5_mixed rfl rfl rfl (by decide +kernel) ⟨Nat.le_of_ble_eq_true rfl, Nat.le_of_ble_eq_true rfl⟩) hS nA_i [] rfl rfl hl.1 (Nat.le_of_ble_eq_true rfl) dX5_digest_175 ⟨Nat.le_of_ble_eq_true rfl, Nat.le_of_ble_eq_true rfl⟩ (fun rH11 H11 locs hp hzH11 hkH11 hS => ?_)
                  obtain ⟨rfl, rfl⟩ := hp
                  refine lv_lstore_n (lv' := [(1, .long (31 * (31 * (31 * (31 * (31 * (fof R 4 (fom R 3 (fo (fun k => R k) 4 (fo (fun k => tcnt R n (nI k)) 12 (3701))))) + (Int32.toInt64 (ntp R))) + ((ldsh R).toInt64)) + (Int32.toInt64 ((mnpw R).toInt32))) + (Int32.toInt64 ((if kp = 0 then 0 else 1)))) + (Int32.toInt64 (nI len)))), (0, .ref (α 0)), (3, .int (nI 4))]) hx hb dX5_digest_178 rfl hl (by decide) rfl (fun ls hl => ?_)
                  refine lv_iconst (v := 0) hx hb dX5_digest_179 (by decide) ?_
                  refine lv_istore_n (lv' := [(3, .int 0), (1, .long (31 * (31 * (31 * (31 * (31 * (fof R 4 (fom R 3 (fo (fun k => R k) 4 (fo (fun k => tcnt R n (nI k)) 12 (3701))))) + (Int32.toInt64 (ntp R))) + ((ldsh R).toInt64)) + (Int32.toInt64 ((mnpw R).toInt32))) + (Int32.toInt64 ((if kp = 0 then 0 else 1)))) + (Int32.toInt64 (nI len)))), (0, .ref (α 0))]) hx hb dX5_digest_180 rfl hl (by decide) rfl (fun ls hl => ?_)
                  have loop181 : ∀ (m4 : Nat) (i6 : Nat) (_ : i6 + m4 = len) (locs : List Loc) (_ : va_S (A5 α) s.heap H1 locs) (ls : Array Slot) (_ : lv_has ls 5 [(0, .ref (α 0)), (1, .long (fo (fun k => cod F len k) i6 (31 * (31 * (31 * (31 * (31 * (fof R 4 (fom R 3 (fo (fun k => R k) 4 (fo (fun k => tcnt R n (nI k)) 12 (3701))))) + Int32.toInt64 (ntp R)) + (ldsh R).toInt64) + Int32.toInt64 ((mnpw R).toInt32)) + Int32.toInt64 (if kp = 0 then 0 else 1)) + Int32.toInt64 (nI len)))), (3, .int (nI i6))]), W p l e (headSpec wsX5_digest ({ frames := 6, cells := 0, slots := 0, locals := 140 } : Room)).room s m ([.ref (α 0)] : List Value).toArray below meth c H1 locs 0 0 (MQ below (QL (A5 α) (fun r h => dig R kp n F len (3701) = r ∧ DW D G α R RS kp sv n F len h)) ([.ref (α 0)] : List Value).toArray s 0 0 (A5 α)) (F0 m 181 ls []) := by
                    intro m4
                    induction m4 with
                    | zero =>
                      intro i6 hini6 locs hS ls hl
                      have hi9 : i6 = len := by omega
                      refine lv_iload_n hx hb dX5_digest_181 rfl (lv_at hl 2 rfl) ?_
                      refine lv_aload_n hx hb dX5_digest_182 rfl (lv_at hl 0 rfl) ?_
                      refine dp_get hx hb hts (dp_hin 246 rfl) hown hK hD.1 rfl 5 (by decide) (hts (.fieldLink RX5 32 "DroopBoard" "text" "LDroopBoard$OrderText;") (List.mem_of_getElem? (i := 5) rfl)) rfl dX5_digest_183 ?_
                      refine dp_get hx hb hts (dp_hin 257 rfl) hown hK hD.2.2.2.2.2.1 rfl 1 (by decide) (hts (.fieldLink RX5 159 "DroopBoard$OrderText" "length" "I") (List.mem_of_getElem? (i := 6) rfl)) rfl dX5_digest_186 ?_
                      refine lv_icmp_ge (tgt := 212) hx hb dX5_digest_189 (by decide) (fun c5 => ?_) (fun c5 => absurd (nI_le (a := len) (b := i6) (by omega) (by omega)) c5)
                      refine lv_lload_n hx hb dX5_digest_212 rfl (lv_at hl 1 rfl) ?_
                      exact W.lret hx hb hr (fun t ht hW => ⟨⟨fo (fun k => cod F len k) i6 (31 * (31 * (31 * (31 * (31 * (fof R 4 (fom R 3 (fo (fun k => R k) 4 (fo (fun k => tcnt R n (nI k)) 12 (3701))))) + Int32.toInt64 (ntp R)) + (ldsh R).toInt64) + Int32.toInt64 ((mnpw R).toInt32)) + Int32.toInt64 (if kp = 0 then 0 else 1)) + Int32.toInt64 (nI len)), H1, rfl, ⟨by rw [dig, hi9], ⟨w, _, hw, hD⟩⟩, ht⟩, hS.F ht⟩) hS.2.2 dX5_digest_213
                    | succ m4 ih181 =>
                      intro i6 hini6 locs hS ls hl
                      refine lv_iload_n hx hb dX5_digest_181 rfl (lv_at hl 2 rfl) ?_
                      refine lv_aload_n hx hb dX5_digest_182 rfl (lv_at hl 0 rfl) ?_
                      refine dp_get hx hb hts (dp_hin 246 rfl) hown hK hD.1 rfl 5 (by decide) (hts (.fieldLink RX5 32 "DroopBoard" "text" "LDroopBoard$OrderText;") (List.mem_of_getElem? (i := 5) rfl)) rfl dX5_digest_183 ?_
                      refine dp_get hx hb hts (dp_hin 257 rfl) hown hK hD.2.2.2.2.2.1 rfl 1 (by decide) (hts (.fieldLink RX5 159 "DroopBoard$OrderText" "length" "I") (List.mem_of_getElem? (i := 6) rfl)) rfl dX5_digest_186 ?_
                      refine lv_icmp_ge (tgt := 212) hx hb dX5_digest_189 (by decide) (fun c6 => absurd c6 (nI_ge (a := i6) (b := len) (by omega) (by omega))) (fun c6 => ?_)
                      refine lv_lload_n hx hb dX5_digest_192 rfl (lv_at hl 1 rfl) ?_
                      refine lv_aload_n hx hb dX5_digest_193 rfl (lv_at hl 0 rfl) ?_
                      refine dp_get hx hb hts (dp_hin 246 rfl) hown hK hD.1 rfl 5 (by decide) (hts (.fieldLink RX5 32 "DroopBoard" "text" "LDroopBoard$OrderText;") (List.mem_of_getElem? (i := 5) rfl)) rfl dX5_digest_194 ?_
                      refine lv_iload_n hx hb dX5_digest_197 rfl (lv_at hl 2 rfl) ?_
                      refine dp_Vi hF hK hN (c_X4_codeAt l D G (tx α) F len i6 _ hD.2.2.2.2.2 hl6 (by omega)) (cwV 1 hts gX5_digest_X4_codeAt rfl rfl rfl (by decide +kernel) ⟨Nat.le_of_ble_eq_true rfl, Nat.le_of_ble_eq_true rfl⟩) (dp_recv hK hD.2.2.2.2.2.1 rfl) hS nA_i [.long (fo (fun k => cod F len k) i6 (31 * (31 * (31 * (31 * (31 * (fof R 4 (fom R 3 (fo (fun k => R k) 4 (fo (fun k => tcnt R n (nI k)) 12 (3701))))) + Int32.toInt64 (ntp R)) + (ldsh R).toInt64) + Int32.toInt64 ((mnpw R).toInt32)) + Int32.toInt64 (if kp = 0 then 0 else 1)) + Int32.toInt64 (nI len)))] rfl rfl hl.1 (Nat.le_of_ble_eq_true rfl) dX5_digest_198 ⟨Nat.le_of_ble_eq_true rfl, Nat.le_of_ble_eq_true rfl⟩ (fun rH12 H12 locs hp hzH12 hkH12 hS => ?_)
                      obtain ⟨rfl, rfl⟩ := hp
                      refine lv_i2l hx hb dX5_digest_201 rfl ?_
                      refine dp_Sl hF hK hN (c_X5_mixed l D G (fo (fun k => cod F len k) i6 (31 * (31 * (31 * (31 * (31 * (fof R 4 (fom R 3 (fo (fun k => R k) 4 (fo (fun k => tcnt R n (nI k)) 12 (3701))))) + Int32.toInt64 (ntp R)) + (ldsh R).toInt64) + Int32.toInt64 ((mnpw R).toInt32)) + Int32.toInt64 (if kp = 0 then 0 else 1)) + Int32.toInt64 (nI len))) (Int32.toInt64 (cod F len i6)) _) (va_cwS 2 hts gX5_digest_X5_mixed rfl rfl rfl (by decide +kernel) ⟨Nat.le_of_ble_eq_true rfl, Nat.le_of_ble_eq_true rfl⟩) hS nA_i [] rfl rfl hl.1 (Nat.le_of_ble_eq_true rfl) dX5_digest_202 ⟨Nat.le_of_ble_eq_true rfl, Nat.le_of_ble_eq_true rfl⟩ (fun rH13 H13 locs hp hzH13 hkH13 hS => ?_)
                      obtain ⟨rfl, rfl⟩ := hp
                      refine lv_lstore_n (lv' := [(1, .long (31 * (fo (fun k => cod F len k) i6 (31 * (31 * (31 * (31 * (31 * (fof R 4 (fom R 3 (fo (fun k => R k) 4 (fo (fun k => tcnt R n (nI k)) 12 (3701))))) + Int32.toInt64 (ntp R)) + (ldsh R).toInt64) + Int32.toInt64 ((mnpw R).toInt32)) + Int32.toInt64 (if kp = 0 then 0 else 1)) + Int32.toInt64 (nI len))) + (Int32.toInt64 (cod F len i6)))), (0, .ref (α 0)), (3, .int (nI i6))]) hx hb dX5_digest_205 rfl hl (by decide) rfl (fun ls hl => ?_)
                      refine lv_iinc (v := nI (i6 + 1)) (lv' := [(3, .int (nI (i6 + 1))), (1, .long (31 * (fo (fun k => cod F len k) i6 (31 * (31 * (31 * (31 * (31 * (fof R 4 (fom R 3 (fo (fun k => R k) 4 (fo (fun k => tcnt R n (nI k)) 12 (3701))))) + Int32.toInt64 (ntp R)) + (ldsh R).toInt64) + Int32.toInt64 ((mnpw R).toInt32)) + Int32.toInt64 (if kp = 0 then 0 else 1)) + Int32.toInt64 (nI len))) + (Int32.toInt64 (cod F len i6)))), (0, .ref (α 0))]) hx hb dX5_digest_206 hl (k := 2) rfl (nI_1 i6) (by decide) rfl (fun ls hl => ?_)
                      refine lv_goto (tgt := 181) hx hb dX5_digest_209 (by decide) ?_
                      exact ih181 (i6 + 1) (by omega) _ hS _ (lv_sub hl [2, 1, 0] rfl)
                  exact loop181 len 0 (by omega) _ hS _ (lv_sub hl [2, 1, 0] rfl)
                | succ m6 ih79 =>
                  intro j4 hinj4 locs hS ls hl
                  refine lv_iload_n hx hb dX5_digest_79 rfl (lv_at hl 2 rfl) ?_
                  refine lv_iconst (v := 4) hx hb dX5_digest_80 (by decide) ?_
                  refine lv_icmp_ge (tgt := 118) hx hb dX5_digest_81 (by decide) (fun c7 => absurd c7 (nI_ge (a := j4) (b := 4) (by omega) (by omega))) (fun c7 => ?_)
                  refine lv_iconst (v := 0) hx hb dX5_digest_84 (by decide) ?_
                  refine lv_istore (lv' := [(4, .int 0), (0, .ref (α 0)), (1, .long (fof R j4 (fom R 3 (fo (fun k => R k) 4 (fo (fun k => tcnt R n (nI k)) 12 (3701)))))), (3, .int (nI j4))]) hx hb dX5_digest_85 hl (by decide) rfl (fun ls hl => ?_)
                  have loop87 : ∀ (m5 : Nat) (k5 : Nat) (_ : k5 + m5 = 3) (locs : List Loc) (_ : va_S (A5 α) s.heap Hh locs) (ls : Array Slot) (_ : lv_has ls 5 [(0, .ref (α 0)), (3, .int (nI j4)), (1, .long (fo (fun k => tfee R j4 (nI k)) k5 (fof R j4 (fom R 3 (fo (fun k => R k) 4 (fo (fun k => tcnt R n (nI k)) 12 (3701))))))), (4, .int (nI k5))]), W p l e (headSpec wsX5_digest ({ frames := 6, cells := 0, slots := 0, locals := 140 } : Room)).room s m ([.ref (α 0)] : List Value).toArray below meth c Hh locs 0 0 (MQ below (QL (A5 α) (fun r h => dig R kp n F len (3701) = r ∧ DW D G α R RS kp sv n F len h)) ([.ref (α 0)] : List Value).toArray s 0 0 (A5 α)) (F0 m 87 ls []) := by
                    intro m5
                    induction m5 with
                    | zero =>
                      intro k5 hink5 locs hS ls hl
                      obtain rfl : k5 = 3 := by omega
                      refine lv_iload hx hb dX5_digest_87 (lv_at hl 3 rfl) ?_
                      refine lv_iconst (v := 2) hx hb dX5_digest_89 (by decide) ?_
                      refine lv_icmp_gt (tgt := 112) hx hb dX5_digest_90 (by decide) (fun c8 => ?_) (fun c8 => absurd (nI_lt (a := 2) (b := 3) (by omega) (by omega)) c8)
                      refine lv_iinc (v := nI (j4 + 1)) (lv' := [(3, .int (nI (j4 + 1))), (0, .ref (α 0)), (1, .long (fo (fun k => tfee R j4 (nI k)) 3 (fof R j4 (fom R 3 (fo (fun k => R k) 4 (fo (fun k => tcnt R n (nI k)) 12 (3701))))))), (4, .int (nI 3))]) hx hb dX5_digest_112 hl (k := 1) rfl (nI_1 j4) (by decide) rfl (fun ls hl => ?_)
                      refine lv_goto (tgt := 79) hx hb dX5_digest_115 (by decide) ?_
                      exact ih79 (j4 + 1) (by omega) _ hS _ (lv_sub hl [1, 2, 0] rfl)
                    | succ m5 ih87 =>
                      intro k5 hink5 locs hS ls hl
                      refine lv_iload hx hb dX5_digest_87 (lv_at hl 3 rfl) ?_
                      refine lv_iconst (v := 2) hx hb dX5_digest_89 (by decide) ?_
                      refine lv_icmp_gt (tgt := 112) hx hb dX5_digest_90 (by decide) (fun c9 => absurd c9 (nI_nlt (a := 2) (b := k5) (by omega) (by omega))) (fun c9 => ?_)
                      refine lv_lload_n hx hb dX5_digest_93 rfl (lv_at hl 2 rfl) ?_
                      refine lv_aload_n hx hb dX5_digest_94 rfl (lv_at hl 0 rfl) ?_
                      refine lv_iload_n hx hb dX5_digest_95 rfl (lv_at hl 1 rfl) ?_
                      refine lv_iload hx hb dX5_digest_96 (lv_at hl 3 rfl) ?_
                      refine dp_Vi hF hK hN (c_X5_tellOfFeeder l D G α w R RT RS kp sv n F len j4 (nI k5) _ hα hw hD hbz hm hn6 hl6 (by omega)) (cwV 2 hts gX5_digest_X5_tellOfFeeder rfl rfl rfl (by decide +kernel) ⟨Nat.le_of_ble_eq_true rfl, Nat.le_of_ble_eq_true rfl⟩) (dp_recv hK hD.1 rfl) hS nA_i [.long (fo (fun k => tfee R j4 (nI k)) k5 (fof R j4 (fom R 3 (fo (fun k => R k) 4 (fo (fun k => tcnt R n (nI k)) 12 (3701))))))] rfl rfl hl.1 (Nat.le_of_ble_eq_true rfl) dX5_digest_98 ⟨Nat.le_of_ble_eq_true rfl, Nat.le_of_ble_eq_true rfl⟩ (fun rH14 H14 locs hp hzH14 hkH14 hS => ?_)
                      obtain ⟨rfl, rfl⟩ := hp
                      refine lv_i2l hx hb dX5_digest_101 rfl ?_
                      refine dp_Sl hF hK hN (c_X5_mixed l D G (fo (fun k => tfee R j4 (nI k)) k5 (fof R j4 (fom R 3 (fo (fun k => R k) 4 (fo (fun k => tcnt R n (nI k)) 12 (3701)))))) (Int32.toInt64 (tfee R j4 (nI k5))) _) (va_cwS 2 hts gX5_digest_X5_mixed rfl rfl rfl (by decide +kernel) ⟨Nat.le_of_ble_eq_true rfl, Nat.le_of_ble_eq_true rfl⟩) hS nA_i [] rfl rfl hl.1 (Nat.le_of_ble_eq_true rfl) dX5_digest_102 ⟨Nat.le_of_ble_eq_true rfl, Nat.le_of_ble_eq_true rfl⟩ (fun rH15 H15 locs hp hzH15 hkH15 hS => ?_)
                      obtain ⟨rfl, rfl⟩ := hp
                      refine lv_lstore_n (lv' := [(1, .long (31 * (fo (fun k => tfee R j4 (nI k)) k5 (fof R j4 (fom R 3 (fo (fun k => R k) 4 (fo (fun k => tcnt R n (nI k)) 12 (3701)))))) + (Int32.toInt64 (tfee R j4 (nI k5))))), (0, .ref (α 0)), (3, .int (nI j4)), (4, .int (nI k5))]) hx hb dX5_digest_105 rfl hl (by decide) rfl (fun ls hl => ?_)
                      refine lv_iinc (v := nI (k5 + 1)) (lv' := [(4, .int (nI (k5 + 1))), (1, .long (31 * (fo (fun k => tfee R j4 (nI k)) k5 (fof R j4 (fom R 3 (fo (fun k => R k) 4 (fo (fun k => tcnt R n (nI k)) 12 (3701)))))) + (Int32.toInt64 (tfee R j4 (nI k5))))), (0, .ref (α 0)), (3, .int (nI j4))]) hx hb dX5_digest_106 hl (k := 3) rfl (nI_1 k5) (by decide) rfl (fun ls hl => ?_)
                      refine lv_goto (tgt := 87) hx hb dX5_digest_109 (by decide) ?_
                      exact ih87 (k5 + 1) (by omega) _ hS _ (lv_sub hl [2, 3, 1, 0] rfl)
                  exact loop87 3 0 rfl _ hS _ (lv_sub hl [1, 3, 2, 0] rfl)
              exact loop79 4 0 rfl _ hS _ (lv_sub hl [1, 2, 0] rfl)
            | succ m7 ih59 =>
              intro j3 Hh hinj3 hDWj3 locs hS ls hl
              obtain ⟨w, RT, hw, hD⟩ := hDWj3
              refine lv_iload_n hx hb dX5_digest_59 rfl (lv_at hl 2 rfl) ?_
              refine lv_iconst (v := 3) hx hb dX5_digest_60 (by decide) ?_
              refine lv_icmp_ge (tgt := 77) hx hb dX5_digest_61 (by decide) (fun c10 => absurd c10 (nI_ge (a := j3) (b := 3) (by omega) (by omega))) (fun c10 => ?_)
              refine lv_aload_n hx hb dX5_digest_64 rfl (lv_at hl 0 rfl) ?_
              refine lv_lload_n hx hb dX5_digest_65 rfl (lv_at hl 1 rfl) ?_
              refine lv_iload_n hx hb dX5_digest_66 rfl (lv_at hl 2 rfl) ?_
              refine dp_Vl hF hK hN (c_X5_mixedWithSet l D G α w R RT RS kp sv n F len j3 (fom R j3 (fo (fun k => R k) 4 (fo (fun k => tcnt R n (nI k)) 12 (3701)))) _ hα hw hD hbz hm hn6 hl6 (by omega) (hm2s j3 (by omega)) hmp (hms j3 (by omega))) (cwV 2 hts gX5_digest_X5_mixedWithSet rfl rfl rfl (by decide +kernel) ⟨Nat.le_of_ble_eq_true rfl, Nat.le_of_ble_eq_true rfl⟩) (dp_recv hK hD.1 rfl) hS (fun q hq => hq) [] rfl rfl hl.1 (Nat.le_of_ble_eq_true rfl) dX5_digest_67 ⟨Nat.le_of_ble_eq_true rfl, Nat.le_of_ble_eq_true rfl⟩ (fun rH16 H16 locs hp hzH16 hkH16 hS => ?_)
              obtain ⟨rfl, w, RT, hw, hD⟩ := hp
              refine lv_lstore_n (lv' := [(1, .long (mws R j3 (fom R j3 (fo (fun k => R k) 4 (fo (fun k => tcnt R n (nI k)) 12 (3701)))))), (0, .ref (α 0)), (3, .int (nI j3))]) hx hb dX5_digest_70 rfl hl (by decide) rfl (fun ls hl => ?_)
              refine lv_iinc (v := nI (j3 + 1)) (lv' := [(3, .int (nI (j3 + 1))), (1, .long (mws R j3 (fom R j3 (fo (fun k => R k) 4 (fo (fun k => tcnt R n (nI k)) 12 (3701)))))), (0, .ref (α 0))]) hx hb dX5_digest_71 hl (k := 2) rfl (nI_1 j3) (by decide) rfl (fun ls hl => ?_)
              refine lv_goto (tgt := 59) hx hb dX5_digest_74 (by decide) ?_
              exact ih59 (j3 + 1) H16 (by omega) ⟨w, _, hw, hD⟩ _ hS _ (lv_sub hl [2, 1, 0] rfl)
          exact loop59 3 0 s.heap rfl ⟨w, _, hw, hD⟩ _ hS _ (lv_sub hl [1, 2, 0] rfl)
        | succ m8 ih31 =>
          intro i2 hini2 locs hS ls hl
          refine lv_iload_n hx hb dX5_digest_31 rfl (lv_at hl 2 rfl) ?_
          refine lv_iconst (v := 4) hx hb dX5_digest_32 (by decide) ?_
          refine lv_icmp_ge (tgt := 57) hx hb dX5_digest_33 (by decide) (fun c11 => absurd c11 (nI_ge (a := i2) (b := 4) (by omega) (by omega))) (fun c11 => ?_)
          refine lv_lload_n hx hb dX5_digest_36 rfl (lv_at hl 1 rfl) ?_
          refine lv_aload_n hx hb dX5_digest_37 rfl (lv_at hl 0 rfl) ?_
          refine dp_get hx hb hts (dp_hin 246 rfl) hown hK hD.1 rfl 0 (by decide) (hts (.fieldLink RX5 10 "DroopBoard" "board" "LDroopBoard$Board;") (List.mem_of_getElem? (i := 2) rfl)) rfl dX5_digest_38 ?_
          refine dp_get hx hb hts (dp_hin 252 rfl) hown hK hD.2.1.1 rfl 2 (by decide) (hts (.fieldLink RX5 148 "DroopBoard$Board" "settings" "[I") (List.mem_of_getElem? (i := 3) rfl)) rfl dX5_digest_41 ?_
          refine lv_iload_n hx hb dX5_digest_44 rfl (lv_at hl 2 rfl) ?_
          refine dp_iald hx hb hK hD.2.1.2.2.2.1 0 rfl i2 rfl (by omega) (by decide) dX5_digest_45 ?_
          refine lv_i2l hx hb dX5_digest_46 rfl ?_
          refine dp_Sl hF hK hN (c_X5_mixed l D G (fo (fun k => R k) i2 (fo (fun k => tcnt R n (nI k)) 12 (3701))) (Int32.toInt64 (R i2)) _) (va_cwS 2 hts gX5_digest_X5_mixed rfl rfl rfl (by decide +kernel) ⟨Nat.le_of_ble_eq_true rfl, Nat.le_of_ble_eq_true rfl⟩) hS nA_i [] rfl rfl hl.1 (Nat.le_of_ble_eq_true rfl) dX5_digest_47 ⟨Nat.le_of_ble_eq_true rfl, Nat.le_of_ble_eq_true rfl⟩ (fun rH17 H17 locs hp hzH17 hkH17 hS => ?_)
          obtain ⟨rfl, rfl⟩ := hp
          refine lv_lstore_n (lv' := [(1, .long (31 * (fo (fun k => R k) i2 (fo (fun k => tcnt R n (nI k)) 12 (3701))) + (Int32.toInt64 (R i2)))), (0, .ref (α 0)), (3, .int (nI i2))]) hx hb dX5_digest_50 rfl hl (by decide) rfl (fun ls hl => ?_)
          refine lv_iinc (v := nI (i2 + 1)) (lv' := [(3, .int (nI (i2 + 1))), (1, .long (31 * (fo (fun k => R k) i2 (fo (fun k => tcnt R n (nI k)) 12 (3701))) + (Int32.toInt64 (R i2)))), (0, .ref (α 0))]) hx hb dX5_digest_51 hl (k := 2) rfl (nI_1 i2) (by decide) rfl (fun ls hl => ?_)
          refine lv_goto (tgt := 31) hx hb dX5_digest_54 (by decide) ?_
          exact ih31 (i2 + 1) (by omega) _ hS _ (lv_sub hl [2, 1, 0] rfl)
      exact loop31 4 0 rfl _ hS _ (lv_sub hl [1, 2, 0] rfl)
    | succ m9 ih6 =>
      intro i hini locs hS ls hl
      refine lv_iload_n hx hb dX5_digest_6 rfl (lv_at hl 2 rfl) ?_
      refine lv_bipush (v := 11) hx hb dX5_digest_7 (by decide) ?_
      refine lv_icmp_gt (tgt := 29) hx hb dX5_digest_9 (by decide) (fun c12 => absurd c12 (nI_nlt (a := 11) (b := i) (by omega) (by omega))) (fun c12 => ?_)
      refine lv_lload_n hx hb dX5_digest_12 rfl (lv_at hl 1 rfl) ?_
      refine lv_aload_n hx hb dX5_digest_13 rfl (lv_at hl 0 rfl) ?_
      refine lv_iload_n hx hb dX5_digest_14 rfl (lv_at hl 2 rfl) ?_
      refine dp_Vi hF hK hN (c_X5_tellCount l D G α w R RT RS kp sv n F len (nI i) _ hα hw hD hbz hm hn6 hl6 ) (cwV 1 hts gX5_digest_X5_tellCount rfl rfl rfl (by decide +kernel) ⟨Nat.le_of_ble_eq_true rfl, Nat.le_of_ble_eq_true rfl⟩) (dp_recv hK hD.1 rfl) hS nA_i [.long (fo (fun k => tcnt R n (nI k)) i (3701))] rfl rfl hl.1 (Nat.le_of_ble_eq_true rfl) dX5_digest_15 ⟨Nat.le_of_ble_eq_true rfl, Nat.le_of_ble_eq_true rfl⟩ (fun rH18 H18 locs hp hzH18 hkH18 hS => ?_)
      obtain ⟨rfl, rfl⟩ := hp
      refine lv_i2l hx hb dX5_digest_18 rfl ?_
      refine dp_Sl hF hK hN (c_X5_mixed l D G (fo (fun k => tcnt R n (nI k)) i (3701)) (Int32.toInt64 (tcnt R n (nI i))) _) (va_cwS 2 hts gX5_digest_X5_mixed rfl rfl rfl (by decide +kernel) ⟨Nat.le_of_ble_eq_true rfl, Nat.le_of_ble_eq_true rfl⟩) hS nA_i [] rfl rfl hl.1 (Nat.le_of_ble_eq_true rfl) dX5_digest_19 ⟨Nat.le_of_ble_eq_true rfl, Nat.le_of_ble_eq_true rfl⟩ (fun rH19 H19 locs hp hzH19 hkH19 hS => ?_)
      obtain ⟨rfl, rfl⟩ := hp
      refine lv_lstore_n (lv' := [(1, .long (31 * (fo (fun k => tcnt R n (nI k)) i (3701)) + (Int32.toInt64 (tcnt R n (nI i))))), (0, .ref (α 0)), (3, .int (nI i))]) hx hb dX5_digest_22 rfl hl (by decide) rfl (fun ls hl => ?_)
      refine lv_iinc (v := nI (i + 1)) (lv' := [(3, .int (nI (i + 1))), (1, .long (31 * (fo (fun k => tcnt R n (nI k)) i (3701)) + (Int32.toInt64 (tcnt R n (nI i))))), (0, .ref (α 0))]) hx hb dX5_digest_23 hl (k := 2) rfl (nI_1 i) (by decide) rfl (fun ls hl => ?_)
      refine lv_goto (tgt := 6) hx hb dX5_digest_26 (by decide) ?_
      exact ih6 (i + 1) (by omega) _ hS _ (lv_sub hl [2, 1, 0] rfl)
  exact loop6 12 0 rfl _ hS _ (lv_sub hl [2, 1, 0] rfl)
