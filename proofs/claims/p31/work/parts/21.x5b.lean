set_option maxHeartbeats 600000 in
set_option maxRecDepth 100000 in
theorem c_X5_build (l : Launch) (hl9 : l.stackTraces = false) (D : va_G) (G : Nat → ClassId) (α : Nat → Nat) (w : Nat → Nat) (R RT RS : Nat → Int32) (kp : Int32) (sv : Nat → Nat → Int32) (n : Nat) (F : Nat → Int32) (len : Nat) (i rt dr : Int32) (H : Heap) (hα : inj 115 α) (hw : pm w) (hD : DP D G α w R RT RS kp sv n F len H) (hbz : bz R) (hm : mono R) (hn6 : n ≤ 6) (hl6 : len ≤ 60) : vx_Met l yX5_build wsX5_build ({ frames := 7, cells := 4, slots := 24, locals := 112 } : Room) (va_Pc [.ref (α 0), .int i, .int rt, .int dr] (CE D G (A5 α) H)) (QI (A5 α) (fun r h => cBuild R i rt dr = 0 ∧ R (8 + 10 * ix i) = r ∧ DW D G α (upd (upd R (8 + 10 * ix i) rt) (9 + 10 * ix i) dr) RS kp (svs sv n R) (svn n) F len h)) (XX (fun E => (E = xI ∧ cBuild R i rt dr = 1) ∨ (E = xA ∧ cBuild R i rt dr = 2) ∨ (E = xS ∧ cBuild R i rt dr = 3))) 4 24 (A5 α) := by
  refine vx_ofW (cc := cX5_build) (maxL := 6) (ret := (some .int)) (by decide) rfl ?_
  intro p e s m args below meth c s₁ B0 hml ht9 hv
  obtain ⟨rfl, ⟨rfl, hK, hN⟩, hE, hZ⟩ := hv
  have hx := B0.exec
  have hb := B0.bytes
  have hr := B0.returns
  have hts := atoms_spec (ws := wsX5_build) B0.pre
  have hown : s.vm.findClass RX5 = some m.cls := findClass_of_methodNamed B0.named
  have hlocks := B0.notSynchronized
  have hF : CallFix p m c cX5_build 6 s ([.ref (α 0), .int i, .int rt, .int dr] : List Value).toArray wsX5_build RX5 := ⟨hx, hb, hml, hown, hts⟩
  have hS : va_S (A5 α) s.heap s.heap [] := va_S.rf
  have hl := lv_entry ([.ref (α 0), .int i, .int rt, .int dr]) (n := 6) (Nat.le_of_ble_eq_true rfl)
  rw [lg_entry_eq]
  generalize (lg_sl ([.ref (α 0), .int i, .int rt, .int dr]) ++ List.replicate (6 - (lg_sl ([.ref (α 0), .int i, .int rt, .int dr])).length) Slot.unset).toArray = ls at hl ⊢
  have hl : lv_has ls 6 [(0, .ref (α 0)), (1, .int i), (2, .int rt), (3, .int dr)] := hl
  refine lv_iload_n hx hb dX5_build_0 rfl (lv_at hl 1 rfl) ?_
  refine dpx_Sv hF hK hN hE hZ ht9 hlocks (c_X5_needSet l hl9 D G i _) (va_cwS 1 hts gX5_build_X5_needSet rfl rfl rfl (by decide +kernel) ⟨Nat.le_of_ble_eq_true rfl, Nat.le_of_ble_eq_true rfl⟩) hS [] rfl rfl hl.1 (Nat.le_of_ble_eq_true rfl) dX5_build_1 ⟨Nat.le_of_ble_eq_true rfl, Nat.le_of_ble_eq_true rfl⟩ (fun E h => Or.inl ⟨h.1, by simp [cBuild, nS_bad h.2]⟩) (fun H1 h q hq _ => h q hq) ⟨Nat.le_of_ble_eq_true rfl, Nat.le_of_ble_eq_true rfl⟩ (fun H1 locs hp _ _ hS => ?_)
  obtain ⟨rfl, j, hj, rfl⟩ := hp
  have hix : ix (nI j) = j := ix_nI (by omega)
  refine lv_iload_n hx hb dX5_build_4 rfl (lv_at hl 2 rfl) ?_
  refine lv_bipush (v := 100) hx hb dX5_build_5 (by decide) ?_
  refine lv_sipush (v := 500) hx hb dX5_build_7 (by decide) ?_
  refine dpx_Sv hF hK hN hE hZ ht9 hlocks (c_X5_needRange l hl9 D G rt 100 500 _) (va_cwS 3 hts gX5_build_X5_needRange rfl rfl rfl (by decide +kernel) ⟨Nat.le_of_ble_eq_true rfl, Nat.le_of_ble_eq_true rfl⟩) hS [] rfl rfl hl.1 (Nat.le_of_ble_eq_true rfl) dX5_build_10 ⟨Nat.le_of_ble_eq_true rfl, Nat.le_of_ble_eq_true rfl⟩ (fun E h => Or.inr (Or.inl ⟨h.1, by simp [cBuild, nS_ok hj, hix, nR_bad h.2]⟩)) (fun H1 h q hq _ => h q hq) ⟨Nat.le_of_ble_eq_true rfl, Nat.le_of_ble_eq_true rfl⟩ (fun H2 locs hp _ _ hS => ?_)
  obtain ⟨rfl, hr2⟩ := hp
  refine lv_iload_n hx hb dX5_build_13 rfl (lv_at hl 3 rfl) ?_
  refine lv_bipush (v := 100) hx hb dX5_build_14 (by decide) ?_
  refine lv_sipush (v := 400) hx hb dX5_build_16 (by decide) ?_
  refine dpx_Sv hF hK hN hE hZ ht9 hlocks (c_X5_needRange l hl9 D G dr 100 400 _) (va_cwS 3 hts gX5_build_X5_needRange rfl rfl rfl (by decide +kernel) ⟨Nat.le_of_ble_eq_true rfl, Nat.le_of_ble_eq_true rfl⟩) hS [] rfl rfl hl.1 (Nat.le_of_ble_eq_true rfl) dX5_build_19 ⟨Nat.le_of_ble_eq_true rfl, Nat.le_of_ble_eq_true rfl⟩ (fun E h => Or.inr (Or.inl ⟨h.1, by simp [cBuild, nS_ok hj, hix, nR_ok hr2, nR_bad h.2]⟩)) (fun H1 h q hq _ => h q hq) ⟨Nat.le_of_ble_eq_true rfl, Nat.le_of_ble_eq_true rfl⟩ (fun H3 locs hp _ _ hS => ?_)
  obtain ⟨rfl, hr3⟩ := hp
  refine lv_aload_n hx hb dX5_build_22 rfl (lv_at hl 0 rfl) ?_
  refine dp_get hx hb hts (dp_hin 67 rfl) hown hK hD.1 rfl 0 (by decide) (hts (.fieldLink RX5 10 "DroopBoard" "board" "LDroopBoard$Board;") (List.mem_of_getElem? (i := 3) rfl)) rfl dX5_build_23 ?_
  refine dp_get hx hb hts (dp_hin 73 rfl) hown hK hD.2.1.1 rfl 0 (by decide) (hts (.fieldLink RX5 44 "DroopBoard$Board" "diesels" "[LDroopBoard$Diesel;") (List.mem_of_getElem? (i := 4) rfl)) rfl dX5_build_26 ?_
  refine lv_iload_n hx hb dX5_build_29 rfl (lv_at hl 1 rfl) ?_
  refine dp_aald hx hb hK hD.2.1.2.1 1 rfl j rfl hj (by decide) rfl dX5_build_30 ?_
  refine lv_astore (lv' := [(4, .ref ((aB α 0) (4 + j))), (0, .ref (α 0)), (1, .int (nI j)), (2, .int rt), (3, .int dr)]) hx hb dX5_build_31 hl (by decide) rfl (fun ls hl => ?_)
  refine lv_aload hx hb dX5_build_33 (lv_at hl 0 rfl) ?_
  refine dp_get hx hb hts (dp_hin 78 rfl) hown hK (hD.2.1.2.2.2.2.1 j hj) rfl 3 (by decide) (hts (.fieldLink RX5 48 "DroopBoard$Diesel" "runs" "Z") (List.mem_of_getElem? (i := 5) rfl)) rfl dX5_build_35 ?_
  refine lv_if_eq (tgt := 51) hx hb dX5_build_38 (by decide) (fun c4 => ?_) (fun c4 => ?_)
  · refine lv_aload_n hx hb dX5_build_51 rfl (lv_at hl 1 rfl) ?_
    refine dp_get hx hb hts (dp_hin 67 rfl) hown hK hD.1 rfl 4 (by decide) (hts (.fieldLink RX5 25 "DroopBoard" "history" "LDroopBoard$History;") (List.mem_of_getElem? (i := 6) rfl)) rfl dX5_build_52 ?_
    refine lv_aload_n hx hb dX5_build_55 rfl (lv_at hl 1 rfl) ?_
    refine dp_get hx hb hts (dp_hin 67 rfl) hown hK hD.1 rfl 0 (by decide) (hts (.fieldLink RX5 10 "DroopBoard" "board" "LDroopBoard$Board;") (List.mem_of_getElem? (i := 3) rfl)) rfl dX5_build_56 ?_
    refine dp_Vv hF hK hN (c_X3_save l D G (hh α) (sB α) w sv n (aB α 0) R _ hD.2.2.2.2.1 (hap_a hα) hw hD.2.1 (sB_b hα) hbz (hh_b hα) hn6) (cwV 1 hts gX5_build_X3_save rfl rfl rfl (by decide +kernel) ⟨Nat.le_of_ble_eq_true rfl, Nat.le_of_ble_eq_true rfl⟩) (dp_recv hK hD.2.2.2.2.1.1 rfl) hS A5_h [] rfl rfl hl.1 (Nat.le_of_ble_eq_true rfl) dX5_build_59 ⟨Nat.le_of_ble_eq_true rfl, Nat.le_of_ble_eq_true rfl⟩ (fun H4 locs hp hzH4 hkH4 hS => ?_)
    obtain ⟨hz9, w, hw, hI9⟩ := hp
    have hD := hD.hist hα hI9 (fun q hq => hq) hkH4
    refine lv_aload hx hb dX5_build_62 (lv_at hl 0 rfl) ?_
    refine dp_get hx hb hts (dp_hin 78 rfl) hown hK (hD.2.1.2.2.2.2.1 j hj) rfl 0 (by decide) (hts (.fieldLink RX5 65 "DroopBoard$Diesel" "rating" "I") (List.mem_of_getElem? (i := 7) rfl)) rfl dX5_build_64 ?_
    refine lv_istore (lv' := [(5, .int (R (8 + 10 * j))), (4, .ref ((aB α 0) (4 + j))), (0, .ref (α 0)), (1, .int (nI j)), (2, .int rt), (3, .int dr)]) hx hb dX5_build_67 hl (by decide) rfl (fun ls hl => ?_)
    refine lv_aload hx hb dX5_build_69 (lv_at hl 1 rfl) ?_
    refine lv_iload_n hx hb dX5_build_71 rfl (lv_at hl 4 rfl) ?_
    refine dp_put (A := A5 α) (v := .int rt) hx hb hts (dp_hin 78 rfl) tyX1 tyX1_ok nmX1 hown hK (hD.2.1.2.2.2.2.1 j hj) (A5_b (j := 0) (by omega) _ ⟨4 + j, by omega, rfl⟩) hS rfl 0 (by decide) (hts (.fieldLink RX5 65 "DroopBoard$Diesel" "rating" "I") (List.mem_of_getElem? (i := 7) rfl)) rfl rfl rfl (Nat.le_of_ble_eq_true rfl) dX5_build_72 (fun H5 locs hH5 hzH5 hkH5 hS => ?_)
    have hB9 : BD D G (aB α 0) (upd R (8 + 10 * j) rt) H5 := BD.putD (k := 0) (by omega) hD.2.1 (aB_inj hα (by omega)) hj hH5 hkH5
    have hD := hD.board (A := fun q => q = (aB α 0) (4 + j)) hα hw hB9 (fun q hq => ⟨4 + j, by omega, hq⟩) (fun q _ hne => hkH5 q hne)
    refine lv_aload hx hb dX5_build_75 (lv_at hl 1 rfl) ?_
    refine lv_iload_n hx hb dX5_build_77 rfl (lv_at hl 5 rfl) ?_
    refine dp_put (A := A5 α) (v := .int dr) hx hb hts (dp_hin 78 rfl) tyX1 tyX1_ok nmX1 hown hK (hD.2.1.2.2.2.2.1 j hj) (A5_b (j := 0) (by omega) _ ⟨4 + j, by omega, rfl⟩) hS rfl 1 (by decide) (hts (.fieldLink RX5 69 "DroopBoard$Diesel" "droop" "I") (List.mem_of_getElem? (i := 8) rfl)) rfl rfl rfl (Nat.le_of_ble_eq_true rfl) dX5_build_78 (fun H6 locs hH6 hzH6 hkH6 hS => ?_)
    have hB9 : BD D G (aB α 0) (upd (upd R (8 + 10 * j) rt) (9 + 10 * j) dr) H6 := BD.putD (k := 1) (by omega) hD.2.1 (aB_inj hα (by omega)) hj hH6 hkH6
    have hD := hD.board (A := fun q => q = (aB α 0) (4 + j)) hα hw hB9 (fun q hq => ⟨4 + j, by omega, hq⟩) (fun q _ hne => hkH6 q hne)
    refine lv_iload hx hb dX5_build_81 (lv_at hl 0 rfl) ?_
    refine W.widen (k := 4) (n := 24) (Nat.le_of_ble_eq_true rfl) (Nat.le_of_ble_eq_true rfl) ?_
    refine vx_ret ?_
    exact W.iret hx hb hr (fun t ht hW => ⟨⟨R (8 + 10 * j), H6, rfl, ⟨by simp [cBuild, nS_ok hj, hix, nR_ok hr2, nR_ok hr3, c4], by rw [hix], by rw [hix]; exact ⟨w, _, hw, hD⟩⟩, ht⟩, hS.F ht⟩) hS.2.2 dX5_build_83
  obtain ⟨sa, hsa⟩ := hE.2 (56, "the set runs") (List.mem_of_getElem? (i := 0) rfl)
  exact vx_throwS hx hb hl9 (A := A5 α) (cls := "java/lang/IllegalStateException") (names := ["java/lang/RuntimeException", "java/lang/Exception"]) hown fit_S fit_N (hts (.classLink RX5 54 "java/lang/IllegalStateException") (List.mem_of_getElem? (i := 1) rfl)) (hts (.initialized "java/lang/IllegalStateException") (List.mem_of_getElem? (i := 2) rfl)) hsa (hat_S hE (fun w h => hts w (List.mem_cons_of_mem _ (List.mem_append_left _ (List.mem_append_left _ (List.mem_append_right _ h)))))) good_S hZ.1 hZ.2.1 hS (hl.1.trans hml.symm) dX5_build_41 dX5_build_44 dX5_build_45 dX5_build_47 dX5_build_50 (fun x hx => (ht9 x hx).elim) (Nat.le_of_ble_eq_true rfl) (Nat.le_of_ble_eq_true rfl) (Nat.le_of_ble_eq_true rfl) (Nat.le_of_ble_eq_true rfl) hlocks (fun t _ hz hk => ⟨(), trivial, Or.inr (Or.inr ⟨rfl, by simp [cBuild, nS_ok hj, hix, nR_ok hr2, nR_ok hr3, c4]⟩), ⟨hz, fun q hq _ => hk q hq⟩⟩) hS.2.2 (Nat.le_of_ble_eq_true rfl) (Nat.le_of_ble_eq_true rfl)

set_option maxHeartbeats 600000 in
set_option maxRecDepth 100000 in
theorem c_X5_speed (l : Launch) (hl9 : l.stackTraces = false) (D : va_G) (G : Nat → ClassId) (α : Nat → Nat) (w : Nat → Nat) (R RT RS : Nat → Int32) (kp : Int32) (sv : Nat → Nat → Int32) (n : Nat) (F : Nat → Int32) (len : Nat) (i v : Int32) (H : Heap) (hα : inj 115 α) (hw : pm w) (hD : DP D G α w R RT RS kp sv n F len H) (hbz : bz R) (hm : mono R) (hn6 : n ≤ 6) (hl6 : len ≤ 60) : vx_Met l yX5_speed wsX5_speed ({ frames := 7, cells := 2, slots := 12, locals := 112 } : Room) (va_Pc [.ref (α 0), .int i, .int v] (CE D G (A5 α) H)) (QI (A5 α) (fun r h => cSpeed i v = 0 ∧ R (10 + 10 * ix i) = r ∧ DW D G α (upd R (10 + 10 * ix i) v) RS kp (svs sv n R) (svn n) F len h)) (XX (fun E => (E = xI ∧ cSpeed i v = 1) ∨ (E = xA ∧ cSpeed i v = 2))) 2 12 (A5 α) := by
  refine vx_ofW (cc := cX5_speed) (maxL := 4) (ret := (some .int)) (by decide) rfl ?_
  intro p e s m args below meth c s₁ B0 hml ht9 hv
  obtain ⟨rfl, ⟨rfl, hK, hN⟩, hE, hZ⟩ := hv
  have hx := B0.exec
  have hb := B0.bytes
  have hr := B0.returns
  have hts := atoms_spec (ws := wsX5_speed) B0.pre
  have hown : s.vm.findClass RX5 = some m.cls := findClass_of_methodNamed B0.named
  have hlocks := B0.notSynchronized
  have hF : CallFix p m c cX5_speed 4 s ([.ref (α 0), .int i, .int v] : List Value).toArray wsX5_speed RX5 := ⟨hx, hb, hml, hown, hts⟩
  have hS : va_S (A5 α) s.heap s.heap [] := va_S.rf
  have hl := lv_entry ([.ref (α 0), .int i, .int v]) (n := 4) (Nat.le_of_ble_eq_true rfl)
  rw [lg_entry_eq]
  generalize (lg_sl ([.ref (α 0), .int i, .int v]) ++ List.replicate (4 - (lg_sl ([.ref (α 0), .int i, .int v])).length) Slot.unset).toArray = ls at hl ⊢
  have hl : lv_has ls 4 [(0, .ref (α 0)), (1, .int i), (2, .int v)] := hl
  refine lv_iload_n hx hb dX5_speed_0 rfl (lv_at hl 1 rfl) ?_
  refine dpx_Sv hF hK hN hE hZ ht9 hlocks (c_X5_needSet l hl9 D G i _) (va_cwS 1 hts gX5_speed_X5_needSet rfl rfl rfl (by decide +kernel) ⟨Nat.le_of_ble_eq_true rfl, Nat.le_of_ble_eq_true rfl⟩) hS [] rfl rfl hl.1 (Nat.le_of_ble_eq_true rfl) dX5_speed_1 ⟨Nat.le_of_ble_eq_true rfl, Nat.le_of_ble_eq_true rfl⟩ (fun E h => Or.inl ⟨h.1, by simp [cSpeed, nS_bad h.2]⟩) (fun H1 h q hq _ => h q hq) ⟨Nat.le_of_ble_eq_true rfl, Nat.le_of_ble_eq_true rfl⟩ (fun H1 locs hp _ _ hS => ?_)
  obtain ⟨rfl, j, hj, rfl⟩ := hp
  have hix : ix (nI j) = j := ix_nI (by omega)
  refine lv_iload_n hx hb dX5_speed_4 rfl (lv_at hl 2 rfl) ?_
  refine lv_sipush (v := 4700) hx hb dX5_speed_5 (by decide) ?_
  refine lv_sipush (v := 5300) hx hb dX5_speed_8 (by decide) ?_
  refine dpx_Sv hF hK hN hE hZ ht9 hlocks (c_X5_needRange l hl9 D G v 4700 5300 _) (va_cwS 3 hts gX5_speed_X5_needRange rfl rfl rfl (by decide +kernel) ⟨Nat.le_of_ble_eq_true rfl, Nat.le_of_ble_eq_true rfl⟩) hS [] rfl rfl hl.1 (Nat.le_of_ble_eq_true rfl) dX5_speed_11 ⟨Nat.le_of_ble_eq_true rfl, Nat.le_of_ble_eq_true rfl⟩ (fun E h => Or.inr ⟨h.1, by simp [cSpeed, nS_ok hj, hix, nR_bad h.2]⟩) (fun H1 h q hq _ => h q hq) ⟨Nat.le_of_ble_eq_true rfl, Nat.le_of_ble_eq_true rfl⟩ (fun H2 locs hp _ _ hS => ?_)
  obtain ⟨rfl, hr2⟩ := hp
  refine lv_aload_n hx hb dX5_speed_14 rfl (lv_at hl 0 rfl) ?_
  refine dp_get hx hb hts (dp_hin 63 rfl) hown hK hD.1 rfl 4 (by decide) (hts (.fieldLink RX5 25 "DroopBoard" "history" "LDroopBoard$History;") (List.mem_of_getElem? (i := 1) rfl)) rfl dX5_speed_15 ?_
  refine lv_aload_n hx hb dX5_speed_18 rfl (lv_at hl 0 rfl) ?_
  refine dp_get hx hb hts (dp_hin 63 rfl) hown hK hD.1 rfl 0 (by decide) (hts (.fieldLink RX5 10 "DroopBoard" "board" "LDroopBoard$Board;") (List.mem_of_getElem? (i := 2) rfl)) rfl dX5_speed_19 ?_
  refine dp_Vv hF hK hN (c_X3_save l D G (hh α) (sB α) w sv n (aB α 0) R _ hD.2.2.2.2.1 (hap_a hα) hw hD.2.1 (sB_b hα) hbz (hh_b hα) hn6) (cwV 1 hts gX5_speed_X3_save rfl rfl rfl (by decide +kernel) ⟨Nat.le_of_ble_eq_true rfl, Nat.le_of_ble_eq_true rfl⟩) (dp_recv hK hD.2.2.2.2.1.1 rfl) hS A5_h [] rfl rfl hl.1 (Nat.le_of_ble_eq_true rfl) dX5_speed_22 ⟨Nat.le_of_ble_eq_true rfl, Nat.le_of_ble_eq_true rfl⟩ (fun H3 locs hp hzH3 hkH3 hS => ?_)
  obtain ⟨hz9, w, hw, hI9⟩ := hp
  have hD := hD.hist hα hI9 (fun q hq => hq) hkH3
  refine lv_aload_n hx hb dX5_speed_25 rfl (lv_at hl 0 rfl) ?_
  refine dp_get hx hb hts (dp_hin 63 rfl) hown hK hD.1 rfl 0 (by decide) (hts (.fieldLink RX5 10 "DroopBoard" "board" "LDroopBoard$Board;") (List.mem_of_getElem? (i := 2) rfl)) rfl dX5_speed_26 ?_
  refine dp_get hx hb hts (dp_hin 69 rfl) hown hK hD.2.1.1 rfl 0 (by decide) (hts (.fieldLink RX5 44 "DroopBoard$Board" "diesels" "[LDroopBoard$Diesel;") (List.mem_of_getElem? (i := 3) rfl)) rfl dX5_speed_29 ?_
  refine lv_iload_n hx hb dX5_speed_32 rfl (lv_at hl 1 rfl) ?_
  refine dp_aald hx hb hK hD.2.1.2.1 1 rfl j rfl hj (by decide) rfl dX5_speed_33 ?_
  refine dp_get hx hb hts (dp_hin 74 rfl) hown hK (hD.2.1.2.2.2.2.1 j hj) rfl 2 (by decide) (hts (.fieldLink RX5 72 "DroopBoard$Diesel" "speed" "I") (List.mem_of_getElem? (i := 4) rfl)) rfl dX5_speed_34 ?_
  refine lv_istore_n (lv' := [(3, .int (R (10 + 10 * j))), (0, .ref (α 0)), (1, .int (nI j)), (2, .int v)]) hx hb dX5_speed_37 rfl hl (by decide) rfl (fun ls hl => ?_)
  refine lv_aload_n hx hb dX5_speed_38 rfl (lv_at hl 1 rfl) ?_
  refine dp_get hx hb hts (dp_hin 63 rfl) hown hK hD.1 rfl 0 (by decide) (hts (.fieldLink RX5 10 "DroopBoard" "board" "LDroopBoard$Board;") (List.mem_of_getElem? (i := 2) rfl)) rfl dX5_speed_39 ?_
  refine dp_get hx hb hts (dp_hin 69 rfl) hown hK hD.2.1.1 rfl 0 (by decide) (hts (.fieldLink RX5 44 "DroopBoard$Board" "diesels" "[LDroopBoard$Diesel;") (List.mem_of_getElem? (i := 3) rfl)) rfl dX5_speed_42 ?_
  refine lv_iload_n hx hb dX5_speed_45 rfl (lv_at hl 2 rfl) ?_
  refine dp_aald hx hb hK hD.2.1.2.1 1 rfl j rfl hj (by decide) rfl dX5_speed_46 ?_
  refine lv_iload_n hx hb dX5_speed_47 rfl (lv_at hl 3 rfl) ?_
  refine dp_put (A := A5 α) (v := .int v) hx hb hts (dp_hin 74 rfl) tyX1 tyX1_ok nmX1 hown hK (hD.2.1.2.2.2.2.1 j hj) (A5_b (j := 0) (by omega) _ ⟨4 + j, by omega, rfl⟩) hS rfl 2 (by decide) (hts (.fieldLink RX5 72 "DroopBoard$Diesel" "speed" "I") (List.mem_of_getElem? (i := 4) rfl)) rfl rfl rfl (Nat.le_of_ble_eq_true rfl) dX5_speed_48 (fun H4 locs hH4 hzH4 hkH4 hS => ?_)
  have hB9 : BD D G (aB α 0) (upd R (10 + 10 * j) v) H4 := BD.putD (k := 2) (by omega) hD.2.1 (aB_inj hα (by omega)) hj hH4 hkH4
  have hD := hD.board (A := fun q => q = (aB α 0) (4 + j)) hα hw hB9 (fun q hq => ⟨4 + j, by omega, hq⟩) (fun q _ hne => hkH4 q hne)
  refine lv_iload_n hx hb dX5_speed_51 rfl (lv_at hl 0 rfl) ?_
  refine W.widen (k := 2) (n := 12) (Nat.le_of_ble_eq_true rfl) (Nat.le_of_ble_eq_true rfl) ?_
  refine vx_ret ?_
  exact W.iret hx hb hr (fun t ht hW => ⟨⟨R (10 + 10 * j), H4, rfl, ⟨by simp [cSpeed, nS_ok hj, hix, nR_ok hr2], by rw [hix], by rw [hix]; exact ⟨w, _, hw, hD⟩⟩, ht⟩, hS.F ht⟩) hS.2.2 dX5_speed_52

set_option maxHeartbeats 600000 in
set_option maxRecDepth 100000 in
theorem c_X5_run (l : Launch) (hl9 : l.stackTraces = false) (D : va_G) (G : Nat → ClassId) (α : Nat → Nat) (w : Nat → Nat) (R RT RS : Nat → Int32) (kp : Int32) (sv : Nat → Nat → Int32) (n : Nat) (F : Nat → Int32) (len : Nat) (i : Int32) (H : Heap) (hα : inj 115 α) (hw : pm w) (hD : DP D G α w R RT RS kp sv n F len H) (hbz : bz R) (hm : mono R) (hn6 : n ≤ 6) (hl6 : len ≤ 60) : vx_Met l yX5_run wsX5_run ({ frames := 7, cells := 2, slots := 12, locals := 110 } : Room) (va_Pc [.ref (α 0), .int i] (CE D G (A5 α) H)) (QI (A5 α) (fun r h => cRun R i = 0 ∧ osum (rst (upd R (11 + 10 * ix i) 1) (ix i)) 11 3 = r ∧ DW D G α (rst (upd R (11 + 10 * ix i) 1) (ix i)) RS kp (svs sv n R) (svn n) F len h)) (XX (fun E => (E = xI ∧ cRun R i = 1) ∨ (E = xS ∧ cRun R i = 2))) 2 12 (A5 α) := by
  refine vx_ofW (cc := cX5_run) (maxL := 2) (ret := (some .int)) (by decide) rfl ?_
  intro p e s m args below meth c s₁ B0 hml ht9 hv
  obtain ⟨rfl, ⟨rfl, hK, hN⟩, hE, hZ⟩ := hv
  have hx := B0.exec
  have hb := B0.bytes
  have hr := B0.returns
  have hts := atoms_spec (ws := wsX5_run) B0.pre
  have hown : s.vm.findClass RX5 = some m.cls := findClass_of_methodNamed B0.named
  have hlocks := B0.notSynchronized
  have hF : CallFix p m c cX5_run 2 s ([.ref (α 0), .int i] : List Value).toArray wsX5_run RX5 := ⟨hx, hb, hml, hown, hts⟩
  have hS : va_S (A5 α) s.heap s.heap [] := va_S.rf
  have hl := lv_entry ([.ref (α 0), .int i]) (n := 2) (Nat.le_of_ble_eq_true rfl)
  rw [lg_entry_eq]
  generalize (lg_sl ([.ref (α 0), .int i]) ++ List.replicate (2 - (lg_sl ([.ref (α 0), .int i])).length) Slot.unset).toArray = ls at hl ⊢
  have hl : lv_has ls 2 [(0, .ref (α 0)), (1, .int i)] := hl
  refine lv_iload_n hx hb dX5_run_0 rfl (lv_at hl 1 rfl) ?_
  refine dpx_Sv hF hK hN hE hZ ht9 hlocks (c_X5_needSet l hl9 D G i _) (va_cwS 1 hts gX5_run_X5_needSet rfl rfl rfl (by decide +kernel) ⟨Nat.le_of_ble_eq_true rfl, Nat.le_of_ble_eq_true rfl⟩) hS [] rfl rfl hl.1 (Nat.le_of_ble_eq_true rfl) dX5_run_1 ⟨Nat.le_of_ble_eq_true rfl, Nat.le_of_ble_eq_true rfl⟩ (fun E h => Or.inl ⟨h.1, by simp [cRun, nS_bad h.2]⟩) (fun H1 h q hq _ => h q hq) ⟨Nat.le_of_ble_eq_true rfl, Nat.le_of_ble_eq_true rfl⟩ (fun H1 locs hp _ _ hS => ?_)
  obtain ⟨rfl, j, hj, rfl⟩ := hp
  have hix : ix (nI j) = j := ix_nI (by omega)
  refine lv_aload_n hx hb dX5_run_4 rfl (lv_at hl 0 rfl) ?_
  refine dp_get hx hb hts (dp_hin 78 rfl) hown hK hD.1 rfl 0 (by decide) (hts (.fieldLink RX5 10 "DroopBoard" "board" "LDroopBoard$Board;") (List.mem_of_getElem? (i := 3) rfl)) rfl dX5_run_5 ?_
  refine dp_get hx hb hts (dp_hin 84 rfl) hown hK hD.2.1.1 rfl 0 (by decide) (hts (.fieldLink RX5 44 "DroopBoard$Board" "diesels" "[LDroopBoard$Diesel;") (List.mem_of_getElem? (i := 4) rfl)) rfl dX5_run_8 ?_
  refine lv_iload_n hx hb dX5_run_11 rfl (lv_at hl 1 rfl) ?_
  refine dp_aald hx hb hK hD.2.1.2.1 1 rfl j rfl hj (by decide) rfl dX5_run_12 ?_
  refine dp_Vi hF hK hN (c_X1_canStart l D G (aB α 0 (4 + j)) j R _ (hD.2.1.2.2.2.2.1 j hj)) (cwV 0 hts gX5_run_X1_canStart rfl rfl rfl (by decide +kernel) ⟨Nat.le_of_ble_eq_true rfl, Nat.le_of_ble_eq_true rfl⟩) (dp_recv hK (hD.2.1.2.2.2.2.1 j hj) rfl) hS nA_i [] rfl rfl hl.1 (Nat.le_of_ble_eq_true rfl) dX5_run_13 ⟨Nat.le_of_ble_eq_true rfl, Nat.le_of_ble_eq_true rfl⟩ (fun rH2 H2 locs hp hzH2 hkH2 hS => ?_)
  obtain ⟨rfl, rfl⟩ := hp
  refine lv_if_ne (tgt := 29) hx hb dX5_run_16 (by decide) (fun c2 => ?_) (fun c2 => ?_)
  · simp at c2
    refine lv_aload_n hx hb dX5_run_29 rfl (lv_at hl 0 rfl) ?_
    refine dp_get hx hb hts (dp_hin 78 rfl) hown hK hD.1 rfl 4 (by decide) (hts (.fieldLink RX5 25 "DroopBoard" "history" "LDroopBoard$History;") (List.mem_of_getElem? (i := 5) rfl)) rfl dX5_run_30 ?_
    refine lv_aload_n hx hb dX5_run_33 rfl (lv_at hl 0 rfl) ?_
    refine dp_get hx hb hts (dp_hin 78 rfl) hown hK hD.1 rfl 0 (by decide) (hts (.fieldLink RX5 10 "DroopBoard" "board" "LDroopBoard$Board;") (List.mem_of_getElem? (i := 3) rfl)) rfl dX5_run_34 ?_
    refine dp_Vv hF hK hN (c_X3_save l D G (hh α) (sB α) w sv n (aB α 0) R _ hD.2.2.2.2.1 (hap_a hα) hw hD.2.1 (sB_b hα) hbz (hh_b hα) hn6) (cwV 1 hts gX5_run_X3_save rfl rfl rfl (by decide +kernel) ⟨Nat.le_of_ble_eq_true rfl, Nat.le_of_ble_eq_true rfl⟩) (dp_recv hK hD.2.2.2.2.1.1 rfl) hS A5_h [] rfl rfl hl.1 (Nat.le_of_ble_eq_true rfl) dX5_run_37 ⟨Nat.le_of_ble_eq_true rfl, Nat.le_of_ble_eq_true rfl⟩ (fun H3 locs hp hzH3 hkH3 hS => ?_)
    obtain ⟨hz9, w, hw, hI9⟩ := hp
    have hD := hD.hist hα hI9 (fun q hq => hq) hkH3
    refine lv_aload_n hx hb dX5_run_40 rfl (lv_at hl 0 rfl) ?_
    refine dp_get hx hb hts (dp_hin 78 rfl) hown hK hD.1 rfl 0 (by decide) (hts (.fieldLink RX5 10 "DroopBoard" "board" "LDroopBoard$Board;") (List.mem_of_getElem? (i := 3) rfl)) rfl dX5_run_41 ?_
    refine dp_get hx hb hts (dp_hin 84 rfl) hown hK hD.2.1.1 rfl 0 (by decide) (hts (.fieldLink RX5 44 "DroopBoard$Board" "diesels" "[LDroopBoard$Diesel;") (List.mem_of_getElem? (i := 4) rfl)) rfl dX5_run_44 ?_
    refine lv_iload_n hx hb dX5_run_47 rfl (lv_at hl 1 rfl) ?_
    refine dp_aald hx hb hK hD.2.1.2.1 1 rfl j rfl hj (by decide) rfl dX5_run_48 ?_
    refine dp_Vv hF hK hN (c_X1_start l D G (aB α 0 (4 + j)) j R _ (hD.2.1.2.2.2.2.1 j hj)) (cwV 0 hts gX5_run_X1_start rfl rfl rfl (by decide +kernel) ⟨Nat.le_of_ble_eq_true rfl, Nat.le_of_ble_eq_true rfl⟩) (dp_recv hK (hD.2.1.2.2.2.2.1 j hj) rfl) hS (fun q hq => A5_b (j := 0) (by omega) q ⟨4 + j, by omega, hq⟩) [] rfl rfl hl.1 (Nat.le_of_ble_eq_true rfl) dX5_run_49 ⟨Nat.le_of_ble_eq_true rfl, Nat.le_of_ble_eq_true rfl⟩ (fun H4 locs hp hzH4 hkH4 hS => ?_)
    obtain ⟨hz9, hc9⟩ := hp
    have hB9 := hD.2.1.rstD (k := 11) (Or.inl rfl) (aB_inj hα (by omega)) hj hc9 hkH4
    have hD := hD.board hα hw hB9 (fun q hq => ⟨4 + j, by omega, hq⟩) hkH4
    refine lv_aload_n hx hb dX5_run_52 rfl (lv_at hl 0 rfl) ?_
    refine dp_get hx hb hts (dp_hin 78 rfl) hown hK hD.1 rfl 0 (by decide) (hts (.fieldLink RX5 10 "DroopBoard" "board" "LDroopBoard$Board;") (List.mem_of_getElem? (i := 3) rfl)) rfl dX5_run_53 ?_
    refine dp_Vi hF hK hN (c_X0_running l D G (aB α 0) (rst (upd R (11 + 10 * j) 1) j) _ hD.2.1) (cwV 0 hts gX5_run_X0_running rfl rfl rfl (by decide +kernel) ⟨Nat.le_of_ble_eq_true rfl, Nat.le_of_ble_eq_true rfl⟩) (dp_recv hK hD.2.1.1 rfl) hS nA_i [] rfl rfl hl.1 (Nat.le_of_ble_eq_true rfl) dX5_run_56 ⟨Nat.le_of_ble_eq_true rfl, Nat.le_of_ble_eq_true rfl⟩ (fun rH5 H5 locs hp hzH5 hkH5 hS => ?_)
    obtain ⟨rfl, rfl⟩ := hp
    refine W.widen (k := 2) (n := 12) (Nat.le_of_ble_eq_true rfl) (Nat.le_of_ble_eq_true rfl) ?_
    refine vx_ret ?_
    exact W.iret hx hb hr (fun t ht hW => ⟨⟨osum (rst (upd R (11 + 10 * j) 1) j) 11 3, H4, rfl, ⟨by simp [cRun, nS_ok hj, hix, c2], by rw [hix], by rw [hix]; exact ⟨w, _, hw, hD⟩⟩, ht⟩, hS.F ht⟩) hS.2.2 dX5_run_59
  simp at c2
  obtain ⟨sa, hsa⟩ := hE.2 (79, "the set runs already") (List.mem_of_getElem? (i := 1) rfl)
  exact vx_throwS hx hb hl9 (A := A5 α) (cls := "java/lang/IllegalStateException") (names := ["java/lang/RuntimeException", "java/lang/Exception"]) hown fit_S fit_N (hts (.classLink RX5 54 "java/lang/IllegalStateException") (List.mem_of_getElem? (i := 1) rfl)) (hts (.initialized "java/lang/IllegalStateException") (List.mem_of_getElem? (i := 2) rfl)) hsa (hat_S hE (fun w h => hts w (List.mem_cons_of_mem _ (List.mem_append_left _ (List.mem_append_right _ h))))) good_S hZ.1 hZ.2.1 hS (hl.1.trans hml.symm) dX5_run_19 dX5_run_22 dX5_run_23 dX5_run_25 dX5_run_28 (fun x hx => (ht9 x hx).elim) (Nat.le_of_ble_eq_true rfl) (Nat.le_of_ble_eq_true rfl) (Nat.le_of_ble_eq_true rfl) (Nat.le_of_ble_eq_true rfl) hlocks (fun t _ hz hk => ⟨(), trivial, Or.inr ⟨rfl, by simp [cRun, nS_ok hj, hix, c2]⟩, ⟨hz, fun q hq _ => hk q hq⟩⟩) hS.2.2 (Nat.le_of_ble_eq_true rfl) (Nat.le_of_ble_eq_true rfl)

set_option maxHeartbeats 600000 in
set_option maxRecDepth 100000 in
theorem c_X5_halt (l : Launch) (hl9 : l.stackTraces = false) (D : va_G) (G : Nat → ClassId) (α : Nat → Nat) (w : Nat → Nat) (R RT RS : Nat → Int32) (kp : Int32) (sv : Nat → Nat → Int32) (n : Nat) (F : Nat → Int32) (len : Nat) (i : Int32) (H : Heap) (hα : inj 115 α) (hw : pm w) (hD : DP D G α w R RT RS kp sv n F len H) (hbz : bz R) (hm : mono R) (hn6 : n ≤ 6) (hl6 : len ≤ 60) : vx_Met l yX5_halt wsX5_halt ({ frames := 7, cells := 2, slots := 12, locals := 110 } : Room) (va_Pc [.ref (α 0), .int i] (CE D G (A5 α) H)) (QI (A5 α) (fun r h => cHalt R i = 0 ∧ osum (rst (upd R (11 + 10 * ix i) 0) (ix i)) 11 3 = r ∧ DW D G α (rst (upd R (11 + 10 * ix i) 0) (ix i)) RS kp (svs sv n R) (svn n) F len h)) (XX (fun E => (E = xI ∧ cHalt R i = 1) ∨ (E = xS ∧ cHalt R i = 2))) 2 12 (A5 α) := by
  refine vx_ofW (cc := cX5_halt) (maxL := 2) (ret := (some .int)) (by decide) rfl ?_
  intro p e s m args below meth c s₁ B0 hml ht9 hv
  obtain ⟨rfl, ⟨rfl, hK, hN⟩, hE, hZ⟩ := hv
  have hx := B0.exec
  have hb := B0.bytes
  have hr := B0.returns
  have hts := atoms_spec (ws := wsX5_halt) B0.pre
  have hown : s.vm.findClass RX5 = some m.cls := findClass_of_methodNamed B0.named
  have hlocks := B0.notSynchronized
  have hF : CallFix p m c cX5_halt 2 s ([.ref (α 0), .int i] : List Value).toArray wsX5_halt RX5 := ⟨hx, hb, hml, hown, hts⟩
  have hS : va_S (A5 α) s.heap s.heap [] := va_S.rf
  have hl := lv_entry ([.ref (α 0), .int i]) (n := 2) (Nat.le_of_ble_eq_true rfl)
  rw [lg_entry_eq]
  generalize (lg_sl ([.ref (α 0), .int i]) ++ List.replicate (2 - (lg_sl ([.ref (α 0), .int i])).length) Slot.unset).toArray = ls at hl ⊢
  have hl : lv_has ls 2 [(0, .ref (α 0)), (1, .int i)] := hl
  refine lv_iload_n hx hb dX5_halt_0 rfl (lv_at hl 1 rfl) ?_
  refine dpx_Sv hF hK hN hE hZ ht9 hlocks (c_X5_needSet l hl9 D G i _) (va_cwS 1 hts gX5_halt_X5_needSet rfl rfl rfl (by decide +kernel) ⟨Nat.le_of_ble_eq_true rfl, Nat.le_of_ble_eq_true rfl⟩) hS [] rfl rfl hl.1 (Nat.le_of_ble_eq_true rfl) dX5_halt_1 ⟨Nat.le_of_ble_eq_true rfl, Nat.le_of_ble_eq_true rfl⟩ (fun E h => Or.inl ⟨h.1, by simp [cHalt, nS_bad h.2]⟩) (fun H1 h q hq _ => h q hq) ⟨Nat.le_of_ble_eq_true rfl, Nat.le_of_ble_eq_true rfl⟩ (fun H1 locs hp _ _ hS => ?_)
  obtain ⟨rfl, j, hj, rfl⟩ := hp
  have hix : ix (nI j) = j := ix_nI (by omega)
  refine lv_aload_n hx hb dX5_halt_4 rfl (lv_at hl 0 rfl) ?_
  refine dp_get hx hb hts (dp_hin 78 rfl) hown hK hD.1 rfl 0 (by decide) (hts (.fieldLink RX5 10 "DroopBoard" "board" "LDroopBoard$Board;") (List.mem_of_getElem? (i := 3) rfl)) rfl dX5_halt_5 ?_
  refine dp_get hx hb hts (dp_hin 84 rfl) hown hK hD.2.1.1 rfl 0 (by decide) (hts (.fieldLink RX5 44 "DroopBoard$Board" "diesels" "[LDroopBoard$Diesel;") (List.mem_of_getElem? (i := 4) rfl)) rfl dX5_halt_8 ?_
  refine lv_iload_n hx hb dX5_halt_11 rfl (lv_at hl 1 rfl) ?_
  refine dp_aald hx hb hK hD.2.1.2.1 1 rfl j rfl hj (by decide) rfl dX5_halt_12 ?_
  refine dp_Vi hF hK hN (c_X1_canStop l D G (aB α 0 (4 + j)) j R _ (hD.2.1.2.2.2.2.1 j hj)) (cwV 0 hts gX5_halt_X1_canStop rfl rfl rfl (by decide +kernel) ⟨Nat.le_of_ble_eq_true rfl, Nat.le_of_ble_eq_true rfl⟩) (dp_recv hK (hD.2.1.2.2.2.2.1 j hj) rfl) hS nA_i [] rfl rfl hl.1 (Nat.le_of_ble_eq_true rfl) dX5_halt_13 ⟨Nat.le_of_ble_eq_true rfl, Nat.le_of_ble_eq_true rfl⟩ (fun rH2 H2 locs hp hzH2 hkH2 hS => ?_)
  obtain ⟨rfl, rfl⟩ := hp
  refine lv_if_ne (tgt := 29) hx hb dX5_halt_16 (by decide) (fun c2 => ?_) (fun c2 => ?_)
  · simp at c2
    refine lv_aload_n hx hb dX5_halt_29 rfl (lv_at hl 0 rfl) ?_
    refine dp_get hx hb hts (dp_hin 78 rfl) hown hK hD.1 rfl 4 (by decide) (hts (.fieldLink RX5 25 "DroopBoard" "history" "LDroopBoard$History;") (List.mem_of_getElem? (i := 5) rfl)) rfl dX5_halt_30 ?_
    refine lv_aload_n hx hb dX5_halt_33 rfl (lv_at hl 0 rfl) ?_
    refine dp_get hx hb hts (dp_hin 78 rfl) hown hK hD.1 rfl 0 (by decide) (hts (.fieldLink RX5 10 "DroopBoard" "board" "LDroopBoard$Board;") (List.mem_of_getElem? (i := 3) rfl)) rfl dX5_halt_34 ?_
    refine dp_Vv hF hK hN (c_X3_save l D G (hh α) (sB α) w sv n (aB α 0) R _ hD.2.2.2.2.1 (hap_a hα) hw hD.2.1 (sB_b hα) hbz (hh_b hα) hn6) (cwV 1 hts gX5_halt_X3_save rfl rfl rfl (by decide +kernel) ⟨Nat.le_of_ble_eq_true rfl, Nat.le_of_ble_eq_true rfl⟩) (dp_recv hK hD.2.2.2.2.1.1 rfl) hS A5_h [] rfl rfl hl.1 (Nat.le_of_ble_eq_true rfl) dX5_halt_37 ⟨Nat.le_of_ble_eq_true rfl, Nat.le_of_ble_eq_true rfl⟩ (fun H3 locs hp hzH3 hkH3 hS => ?_)
    obtain ⟨hz9, w, hw, hI9⟩ := hp
    have hD := hD.hist hα hI9 (fun q hq => hq) hkH3
    refine lv_aload_n hx hb dX5_halt_40 rfl (lv_at hl 0 rfl) ?_
    refine dp_get hx hb hts (dp_hin 78 rfl) hown hK hD.1 rfl 0 (by decide) (hts (.fieldLink RX5 10 "DroopBoard" "board" "LDroopBoard$Board;") (List.mem_of_getElem? (i := 3) rfl)) rfl dX5_halt_41 ?_
    refine dp_get hx hb hts (dp_hin 84 rfl) hown hK hD.2.1.1 rfl 0 (by decide) (hts (.fieldLink RX5 44 "DroopBoard$Board" "diesels" "[LDroopBoard$Diesel;") (List.mem_of_getElem? (i := 4) rfl)) rfl dX5_halt_44 ?_
    refine lv_iload_n hx hb dX5_halt_47 rfl (lv_at hl 1 rfl) ?_
    refine dp_aald hx hb hK hD.2.1.2.1 1 rfl j rfl hj (by decide) rfl dX5_halt_48 ?_
    refine dp_Vv hF hK hN (c_X1_stop l D G (aB α 0 (4 + j)) j R _ (hD.2.1.2.2.2.2.1 j hj)) (cwV 0 hts gX5_halt_X1_stop rfl rfl rfl (by decide +kernel) ⟨Nat.le_of_ble_eq_true rfl, Nat.le_of_ble_eq_true rfl⟩) (dp_recv hK (hD.2.1.2.2.2.2.1 j hj) rfl) hS (fun q hq => A5_b (j := 0) (by omega) q ⟨4 + j, by omega, hq⟩) [] rfl rfl hl.1 (Nat.le_of_ble_eq_true rfl) dX5_halt_49 ⟨Nat.le_of_ble_eq_true rfl, Nat.le_of_ble_eq_true rfl⟩ (fun H4 locs hp hzH4 hkH4 hS => ?_)
    obtain ⟨hz9, hc9⟩ := hp
    have hB9 := hD.2.1.rstD (k := 11) (Or.inl rfl) (aB_inj hα (by omega)) hj hc9 hkH4
    have hD := hD.board hα hw hB9 (fun q hq => ⟨4 + j, by omega, hq⟩) hkH4
    refine lv_aload_n hx hb dX5_halt_52 rfl (lv_at hl 0 rfl) ?_
    refine dp_get hx hb hts (dp_hin 78 rfl) hown hK hD.1 rfl 0 (by decide) (hts (.fieldLink RX5 10 "DroopBoard" "board" "LDroopBoard$Board;") (List.mem_of_getElem? (i := 3) rfl)) rfl dX5_halt_53 ?_
    refine dp_Vi hF hK hN (c_X0_running l D G (aB α 0) (rst (upd R (11 + 10 * j) 0) j) _ hD.2.1) (cwV 0 hts gX5_halt_X0_running rfl rfl rfl (by decide +kernel) ⟨Nat.le_of_ble_eq_true rfl, Nat.le_of_ble_eq_true rfl⟩) (dp_recv hK hD.2.1.1 rfl) hS nA_i [] rfl rfl hl.1 (Nat.le_of_ble_eq_true rfl) dX5_halt_56 ⟨Nat.le_of_ble_eq_true rfl, Nat.le_of_ble_eq_true rfl⟩ (fun rH5 H5 locs hp hzH5 hkH5 hS => ?_)
    obtain ⟨rfl, rfl⟩ := hp
    refine W.widen (k := 2) (n := 12) (Nat.le_of_ble_eq_true rfl) (Nat.le_of_ble_eq_true rfl) ?_
    refine vx_ret ?_
    exact W.iret hx hb hr (fun t ht hW => ⟨⟨osum (rst (upd R (11 + 10 * j) 0) j) 11 3, H4, rfl, ⟨by simp [cHalt, nS_ok hj, hix, c2], by rw [hix], by rw [hix]; exact ⟨w, _, hw, hD⟩⟩, ht⟩, hS.F ht⟩) hS.2.2 dX5_halt_59
  simp at c2
  obtain ⟨sa, hsa⟩ := hE.2 (91, "the set does not run, or its breaker is closed") (List.mem_of_getElem? (i := 2) rfl)
  exact vx_throwS hx hb hl9 (A := A5 α) (cls := "java/lang/IllegalStateException") (names := ["java/lang/RuntimeException", "java/lang/Exception"]) hown fit_S fit_N (hts (.classLink RX5 54 "java/lang/IllegalStateException") (List.mem_of_getElem? (i := 1) rfl)) (hts (.initialized "java/lang/IllegalStateException") (List.mem_of_getElem? (i := 2) rfl)) hsa (hat_S hE (fun w h => hts w (List.mem_cons_of_mem _ (List.mem_append_left _ (List.mem_append_right _ h))))) good_S hZ.1 hZ.2.1 hS (hl.1.trans hml.symm) dX5_halt_19 dX5_halt_22 dX5_halt_23 dX5_halt_25 dX5_halt_28 (fun x hx => (ht9 x hx).elim) (Nat.le_of_ble_eq_true rfl) (Nat.le_of_ble_eq_true rfl) (Nat.le_of_ble_eq_true rfl) (Nat.le_of_ble_eq_true rfl) hlocks (fun t _ hz hk => ⟨(), trivial, Or.inr ⟨rfl, by simp [cHalt, nS_ok hj, hix]; exact c2⟩, ⟨hz, fun q hq _ => hk q hq⟩⟩) hS.2.2 (Nat.le_of_ble_eq_true rfl) (Nat.le_of_ble_eq_true rfl)

set_option maxHeartbeats 600000 in
set_option maxRecDepth 100000 in
theorem c_X5_close (l : Launch) (hl9 : l.stackTraces = false) (D : va_G) (G : Nat → ClassId) (α : Nat → Nat) (w : Nat → Nat) (R RT RS : Nat → Int32) (kp : Int32) (sv : Nat → Nat → Int32) (n : Nat) (F : Nat → Int32) (len : Nat) (i : Int32) (H : Heap) (hα : inj 115 α) (hw : pm w) (hD : DP D G α w R RT RS kp sv n F len H) (hbz : bz R) (hm : mono R) (hn6 : n ≤ 6) (hl6 : len ≤ 60) (hm2 : mono (rst (upd R (12 + 10 * ix i) 1) (ix i))) : vx_Met l yX5_close wsX5_close ({ frames := 7, cells := 2, slots := 12, locals := 110 } : Room) (va_Pc [.ref (α 0), .int i] (CE D G (A5 α) H)) (QI (A5 α) (fun r h => cClose R i = 0 ∧ fq (rst (upd R (12 + 10 * ix i) 1) (ix i)) = r ∧ DW D G α (rst (upd R (12 + 10 * ix i) 1) (ix i)) RS kp (svs sv n R) (svn n) F len h)) (XX (fun E => (E = xI ∧ cClose R i = 1) ∨ (E = xS ∧ cClose R i = 2))) 2 12 (A5 α) := by
  refine vx_ofW (cc := cX5_close) (maxL := 2) (ret := (some .int)) (by decide) rfl ?_
  intro p e s m args below meth c s₁ B0 hml ht9 hv
  obtain ⟨rfl, ⟨rfl, hK, hN⟩, hE, hZ⟩ := hv
  have hx := B0.exec
  have hb := B0.bytes
  have hr := B0.returns
  have hts := atoms_spec (ws := wsX5_close) B0.pre
  have hown : s.vm.findClass RX5 = some m.cls := findClass_of_methodNamed B0.named
  have hlocks := B0.notSynchronized
  have hF : CallFix p m c cX5_close 2 s ([.ref (α 0), .int i] : List Value).toArray wsX5_close RX5 := ⟨hx, hb, hml, hown, hts⟩
  have hS : va_S (A5 α) s.heap s.heap [] := va_S.rf
  have hl := lv_entry ([.ref (α 0), .int i]) (n := 2) (Nat.le_of_ble_eq_true rfl)
  rw [lg_entry_eq]
  generalize (lg_sl ([.ref (α 0), .int i]) ++ List.replicate (2 - (lg_sl ([.ref (α 0), .int i])).length) Slot.unset).toArray = ls at hl ⊢
  have hl : lv_has ls 2 [(0, .ref (α 0)), (1, .int i)] := hl
  refine lv_iload_n hx hb dX5_close_0 rfl (lv_at hl 1 rfl) ?_
  refine dpx_Sv hF hK hN hE hZ ht9 hlocks (c_X5_needSet l hl9 D G i _) (va_cwS 1 hts gX5_close_X5_needSet rfl rfl rfl (by decide +kernel) ⟨Nat.le_of_ble_eq_true rfl, Nat.le_of_ble_eq_true rfl⟩) hS [] rfl rfl hl.1 (Nat.le_of_ble_eq_true rfl) dX5_close_1 ⟨Nat.le_of_ble_eq_true rfl, Nat.le_of_ble_eq_true rfl⟩ (fun E h => Or.inl ⟨h.1, by simp [cClose, nS_bad h.2]⟩) (fun H1 h q hq _ => h q hq) ⟨Nat.le_of_ble_eq_true rfl, Nat.le_of_ble_eq_true rfl⟩ (fun H1 locs hp _ _ hS => ?_)
  obtain ⟨rfl, j, hj, rfl⟩ := hp
  have hix : ix (nI j) = j := ix_nI (by omega)
  rw [hix] at hm2
  refine lv_aload_n hx hb dX5_close_4 rfl (lv_at hl 0 rfl) ?_
  refine dp_get hx hb hts (dp_hin 108 rfl) hown hK hD.1 rfl 0 (by decide) (hts (.fieldLink RX5 10 "DroopBoard" "board" "LDroopBoard$Board;") (List.mem_of_getElem? (i := 3) rfl)) rfl dX5_close_5 ?_
  refine lv_iload_n hx hb dX5_close_8 rfl (lv_at hl 1 rfl) ?_
  refine dp_Vi hF hK hN (c_X0_whyNotClosed l D G (aB α 0) R j _ hD.2.1 hj hm) (cwV 1 hts gX5_close_X0_whyNotClosed rfl rfl rfl (by decide +kernel) ⟨Nat.le_of_ble_eq_true rfl, Nat.le_of_ble_eq_true rfl⟩) (dp_recv hK hD.2.1.1 rfl) hS nA_i [] rfl rfl hl.1 (Nat.le_of_ble_eq_true rfl) dX5_close_9 ⟨Nat.le_of_ble_eq_true rfl, Nat.le_of_ble_eq_true rfl⟩ (fun rH2 H2 locs hp hzH2 hkH2 hS => ?_)
  obtain ⟨rfl, rfl⟩ := hp
  refine lv_if_eq (tgt := 25) hx hb dX5_close_12 (by decide) (fun c2 => ?_) (fun c2 => ?_)
  · refine lv_aload_n hx hb dX5_close_25 rfl (lv_at hl 0 rfl) ?_
    refine dp_get hx hb hts (dp_hin 108 rfl) hown hK hD.1 rfl 4 (by decide) (hts (.fieldLink RX5 25 "DroopBoard" "history" "LDroopBoard$History;") (List.mem_of_getElem? (i := 4) rfl)) rfl dX5_close_26 ?_
    refine lv_aload_n hx hb dX5_close_29 rfl (lv_at hl 0 rfl) ?_
    refine dp_get hx hb hts (dp_hin 108 rfl) hown hK hD.1 rfl 0 (by decide) (hts (.fieldLink RX5 10 "DroopBoard" "board" "LDroopBoard$Board;") (List.mem_of_getElem? (i := 3) rfl)) rfl dX5_close_30 ?_
    refine dp_Vv hF hK hN (c_X3_save l D G (hh α) (sB α) w sv n (aB α 0) R _ hD.2.2.2.2.1 (hap_a hα) hw hD.2.1 (sB_b hα) hbz (hh_b hα) hn6) (cwV 1 hts gX5_close_X3_save rfl rfl rfl (by decide +kernel) ⟨Nat.le_of_ble_eq_true rfl, Nat.le_of_ble_eq_true rfl⟩) (dp_recv hK hD.2.2.2.2.1.1 rfl) hS A5_h [] rfl rfl hl.1 (Nat.le_of_ble_eq_true rfl) dX5_close_33 ⟨Nat.le_of_ble_eq_true rfl, Nat.le_of_ble_eq_true rfl⟩ (fun H3 locs hp hzH3 hkH3 hS => ?_)
    obtain ⟨hz9, w, hw, hI9⟩ := hp
    have hD := hD.hist hα hI9 (fun q hq => hq) hkH3
    refine lv_aload_n hx hb dX5_close_36 rfl (lv_at hl 0 rfl) ?_
    refine dp_get hx hb hts (dp_hin 108 rfl) hown hK hD.1 rfl 0 (by decide) (hts (.fieldLink RX5 10 "DroopBoard" "board" "LDroopBoard$Board;") (List.mem_of_getElem? (i := 3) rfl)) rfl dX5_close_37 ?_
    refine dp_get hx hb hts (dp_hin 114 rfl) hown hK hD.2.1.1 rfl 0 (by decide) (hts (.fieldLink RX5 44 "DroopBoard$Board" "diesels" "[LDroopBoard$Diesel;") (List.mem_of_getElem? (i := 5) rfl)) rfl dX5_close_40 ?_
    refine lv_iload_n hx hb dX5_close_43 rfl (lv_at hl 1 rfl) ?_
    refine dp_aald hx hb hK hD.2.1.2.1 1 rfl j rfl hj (by decide) rfl dX5_close_44 ?_
    refine dp_Vv hF hK hN (c_X1_closeBreaker l D G (aB α 0 (4 + j)) j R _ (hD.2.1.2.2.2.2.1 j hj)) (cwV 0 hts gX5_close_X1_closeBreaker rfl rfl rfl (by decide +kernel) ⟨Nat.le_of_ble_eq_true rfl, Nat.le_of_ble_eq_true rfl⟩) (dp_recv hK (hD.2.1.2.2.2.2.1 j hj) rfl) hS (fun q hq => A5_b (j := 0) (by omega) q ⟨4 + j, by omega, hq⟩) [] rfl rfl hl.1 (Nat.le_of_ble_eq_true rfl) dX5_close_45 ⟨Nat.le_of_ble_eq_true rfl, Nat.le_of_ble_eq_true rfl⟩ (fun H4 locs hp hzH4 hkH4 hS => ?_)
    obtain ⟨hz9, hc9⟩ := hp
    have hB9 := hD.2.1.rstD (k := 12) (Or.inr rfl) (aB_inj hα (by omega)) hj hc9 hkH4
    have hD := hD.board hα hw hB9 (fun q hq => ⟨4 + j, by omega, hq⟩) hkH4
    refine lv_aload_n hx hb dX5_close_48 rfl (lv_at hl 0 rfl) ?_
    refine dp_get hx hb hts (dp_hin 108 rfl) hown hK hD.1 rfl 0 (by decide) (hts (.fieldLink RX5 10 "DroopBoard" "board" "LDroopBoard$Board;") (List.mem_of_getElem? (i := 3) rfl)) rfl dX5_close_49 ?_
    refine dp_Vi hF hK hN (c_X0_frequency l D G (aB α 0) (rst (upd R (12 + 10 * j) 1) j) _ hD.2.1 hm2) (cwV 0 hts gX5_close_X0_frequency rfl rfl rfl (by decide +kernel) ⟨Nat.le_of_ble_eq_true rfl, Nat.le_of_ble_eq_true rfl⟩) (dp_recv hK hD.2.1.1 rfl) hS nA_i [] rfl rfl hl.1 (Nat.le_of_ble_eq_true rfl) dX5_close_52 ⟨Nat.le_of_ble_eq_true rfl, Nat.le_of_ble_eq_true rfl⟩ (fun rH5 H5 locs hp hzH5 hkH5 hS => ?_)
    obtain ⟨rfl, rfl⟩ := hp
    refine W.widen (k := 2) (n := 12) (Nat.le_of_ble_eq_true rfl) (Nat.le_of_ble_eq_true rfl) ?_
    refine vx_ret ?_
    exact W.iret hx hb hr (fun t ht hW => ⟨⟨fq (rst (upd R (12 + 10 * j) 1) j), H4, rfl, ⟨by simp [cClose, nS_ok hj, hix, c2], by rw [hix], by rw [hix]; exact ⟨w, _, hw, hD⟩⟩, ht⟩, hS.F ht⟩) hS.2.2 dX5_close_55
  obtain ⟨sa, hsa⟩ := hE.2 (100, "the breaker can not be closed") (List.mem_of_getElem? (i := 3) rfl)
  exact vx_throwS hx hb hl9 (A := A5 α) (cls := "java/lang/IllegalStateException") (names := ["java/lang/RuntimeException", "java/lang/Exception"]) hown fit_S fit_N (hts (.classLink RX5 54 "java/lang/IllegalStateException") (List.mem_of_getElem? (i := 1) rfl)) (hts (.initialized "java/lang/IllegalStateException") (List.mem_of_getElem? (i := 2) rfl)) hsa (hat_S hE (fun w h => hts w (List.mem_cons_of_mem _ (List.mem_append_left _ (List.mem_append_right _ h))))) good_S hZ.1 hZ.2.1 hS (hl.1.trans hml.symm) dX5_close_15 dX5_close_18 dX5_close_19 dX5_close_21 dX5_close_24 (fun x hx => (ht9 x hx).elim) (Nat.le_of_ble_eq_true rfl) (Nat.le_of_ble_eq_true rfl) (Nat.le_of_ble_eq_true rfl) (Nat.le_of_ble_eq_true rfl) hlocks (fun t _ hz hk => ⟨(), trivial, Or.inr ⟨rfl, by simp [cClose, nS_ok hj, hix, c2]⟩, ⟨hz, fun q hq _ => hk q hq⟩⟩) hS.2.2 (Nat.le_of_ble_eq_true rfl) (Nat.le_of_ble_eq_true rfl)

set_option maxHeartbeats 600000 in
set_option maxRecDepth 100000 in
theorem c_X5_open (l : Launch) (hl9 : l.stackTraces = false) (D : va_G) (G : Nat → ClassId) (α : Nat → Nat) (w : Nat → Nat) (R RT RS : Nat → Int32) (kp : Int32) (sv : Nat → Nat → Int32) (n : Nat) (F : Nat → Int32) (len : Nat) (i : Int32) (H : Heap) (hα : inj 115 α) (hw : pm w) (hD : DP D G α w R RT RS kp sv n F len H) (hbz : bz R) (hm : mono R) (hn6 : n ≤ 6) (hl6 : len ≤ 60) (hm2 : mono (rst (upd R (12 + 10 * ix i) 0) (ix i))) : vx_Met l yX5_open wsX5_open ({ frames := 7, cells := 2, slots := 12, locals := 110 } : Room) (va_Pc [.ref (α 0), .int i] (CE D G (A5 α) H)) (QI (A5 α) (fun r h => cOpen R i = 0 ∧ fq (rst (upd R (12 + 10 * ix i) 0) (ix i)) = r ∧ DW D G α (rst (upd R (12 + 10 * ix i) 0) (ix i)) RS kp (svs sv n R) (svn n) F len h)) (XX (fun E => (E = xI ∧ cOpen R i = 1) ∨ (E = xS ∧ cOpen R i = 2))) 2 12 (A5 α) := by
  refine vx_ofW (cc := cX5_open) (maxL := 2) (ret := (some .int)) (by decide) rfl ?_
  intro p e s m args below meth c s₁ B0 hml ht9 hv
  obtain ⟨rfl, ⟨rfl, hK, hN⟩, hE, hZ⟩ := hv
  have hx := B0.exec
  have hb := B0.bytes
  have hr := B0.returns
  have hts := atoms_spec (ws := wsX5_open) B0.pre
  have hown : s.vm.findClass RX5 = some m.cls := findClass_of_methodNamed B0.named
  have hlocks := B0.notSynchronized
  have hF : CallFix p m c cX5_open 2 s ([.ref (α 0), .int i] : List Value).toArray wsX5_open RX5 := ⟨hx, hb, hml, hown, hts⟩
  have hS : va_S (A5 α) s.heap s.heap [] := va_S.rf
  have hl := lv_entry ([.ref (α 0), .int i]) (n := 2) (Nat.le_of_ble_eq_true rfl)
  rw [lg_entry_eq]
  generalize (lg_sl ([.ref (α 0), .int i]) ++ List.replicate (2 - (lg_sl ([.ref (α 0), .int i])).length) Slot.unset).toArray = ls at hl ⊢
  have hl : lv_has ls 2 [(0, .ref (α 0)), (1, .int i)] := hl
  refine lv_iload_n hx hb dX5_open_0 rfl (lv_at hl 1 rfl) ?_
  refine dpx_Sv hF hK hN hE hZ ht9 hlocks (c_X5_needSet l hl9 D G i _) (va_cwS 1 hts gX5_open_X5_needSet rfl rfl rfl (by decide +kernel) ⟨Nat.le_of_ble_eq_true rfl, Nat.le_of_ble_eq_true rfl⟩) hS [] rfl rfl hl.1 (Nat.le_of_ble_eq_true rfl) dX5_open_1 ⟨Nat.le_of_ble_eq_true rfl, Nat.le_of_ble_eq_true rfl⟩ (fun E h => Or.inl ⟨h.1, by simp [cOpen, nS_bad h.2]⟩) (fun H1 h q hq _ => h q hq) ⟨Nat.le_of_ble_eq_true rfl, Nat.le_of_ble_eq_true rfl⟩ (fun H1 locs hp _ _ hS => ?_)
  obtain ⟨rfl, j, hj, rfl⟩ := hp
  have hix : ix (nI j) = j := ix_nI (by omega)
  rw [hix] at hm2
  refine lv_aload_n hx hb dX5_open_4 rfl (lv_at hl 0 rfl) ?_
  refine dp_get hx hb hts (dp_hin 91 rfl) hown hK hD.1 rfl 0 (by decide) (hts (.fieldLink RX5 10 "DroopBoard" "board" "LDroopBoard$Board;") (List.mem_of_getElem? (i := 3) rfl)) rfl dX5_open_5 ?_
  refine dp_get hx hb hts (dp_hin 97 rfl) hown hK hD.2.1.1 rfl 0 (by decide) (hts (.fieldLink RX5 44 "DroopBoard$Board" "diesels" "[LDroopBoard$Diesel;") (List.mem_of_getElem? (i := 4) rfl)) rfl dX5_open_8 ?_
  refine lv_iload_n hx hb dX5_open_11 rfl (lv_at hl 1 rfl) ?_
  refine dp_aald hx hb hK hD.2.1.2.1 1 rfl j rfl hj (by decide) rfl dX5_open_12 ?_
  refine dp_get hx hb hts (dp_hin 102 rfl) hown hK (hD.2.1.2.2.2.2.1 j hj) rfl 4 (by decide) (hts (.fieldLink RX5 108 "DroopBoard$Diesel" "closed" "Z") (List.mem_of_getElem? (i := 5) rfl)) rfl dX5_open_13 ?_
  refine lv_if_ne (tgt := 29) hx hb dX5_open_16 (by decide) (fun c2 => ?_) (fun c2 => ?_)
  · refine lv_aload_n hx hb dX5_open_29 rfl (lv_at hl 0 rfl) ?_
    refine dp_get hx hb hts (dp_hin 91 rfl) hown hK hD.1 rfl 4 (by decide) (hts (.fieldLink RX5 25 "DroopBoard" "history" "LDroopBoard$History;") (List.mem_of_getElem? (i := 6) rfl)) rfl dX5_open_30 ?_
    refine lv_aload_n hx hb dX5_open_33 rfl (lv_at hl 0 rfl) ?_
    refine dp_get hx hb hts (dp_hin 91 rfl) hown hK hD.1 rfl 0 (by decide) (hts (.fieldLink RX5 10 "DroopBoard" "board" "LDroopBoard$Board;") (List.mem_of_getElem? (i := 3) rfl)) rfl dX5_open_34 ?_
    refine dp_Vv hF hK hN (c_X3_save l D G (hh α) (sB α) w sv n (aB α 0) R _ hD.2.2.2.2.1 (hap_a hα) hw hD.2.1 (sB_b hα) hbz (hh_b hα) hn6) (cwV 1 hts gX5_open_X3_save rfl rfl rfl (by decide +kernel) ⟨Nat.le_of_ble_eq_true rfl, Nat.le_of_ble_eq_true rfl⟩) (dp_recv hK hD.2.2.2.2.1.1 rfl) hS A5_h [] rfl rfl hl.1 (Nat.le_of_ble_eq_true rfl) dX5_open_37 ⟨Nat.le_of_ble_eq_true rfl, Nat.le_of_ble_eq_true rfl⟩ (fun H2 locs hp hzH2 hkH2 hS => ?_)
    obtain ⟨hz9, w, hw, hI9⟩ := hp
    have hD := hD.hist hα hI9 (fun q hq => hq) hkH2
    refine lv_aload_n hx hb dX5_open_40 rfl (lv_at hl 0 rfl) ?_
    refine dp_get hx hb hts (dp_hin 91 rfl) hown hK hD.1 rfl 0 (by decide) (hts (.fieldLink RX5 10 "DroopBoard" "board" "LDroopBoard$Board;") (List.mem_of_getElem? (i := 3) rfl)) rfl dX5_open_41 ?_
    refine dp_get hx hb hts (dp_hin 97 rfl) hown hK hD.2.1.1 rfl 0 (by decide) (hts (.fieldLink RX5 44 "DroopBoard$Board" "diesels" "[LDroopBoard$Diesel;") (List.mem_of_getElem? (i := 4) rfl)) rfl dX5_open_44 ?_
    refine lv_iload_n hx hb dX5_open_47 rfl (lv_at hl 1 rfl) ?_
    refine dp_aald hx hb hK hD.2.1.2.1 1 rfl j rfl hj (by decide) rfl dX5_open_48 ?_
    refine dp_Vv hF hK hN (c_X1_openBreaker l D G (aB α 0 (4 + j)) j R _ (hD.2.1.2.2.2.2.1 j hj)) (cwV 0 hts gX5_open_X1_openBreaker rfl rfl rfl (by decide +kernel) ⟨Nat.le_of_ble_eq_true rfl, Nat.le_of_ble_eq_true rfl⟩) (dp_recv hK (hD.2.1.2.2.2.2.1 j hj) rfl) hS (fun q hq => A5_b (j := 0) (by omega) q ⟨4 + j, by omega, hq⟩) [] rfl rfl hl.1 (Nat.le_of_ble_eq_true rfl) dX5_open_49 ⟨Nat.le_of_ble_eq_true rfl, Nat.le_of_ble_eq_true rfl⟩ (fun H3 locs hp hzH3 hkH3 hS => ?_)
    obtain ⟨hz9, hc9⟩ := hp
    have hB9 := hD.2.1.rstD (k := 12) (Or.inr rfl) (aB_inj hα (by omega)) hj hc9 hkH3
    have hD := hD.board hα hw hB9 (fun q hq => ⟨4 + j, by omega, hq⟩) hkH3
    refine lv_aload_n hx hb dX5_open_52 rfl (lv_at hl 0 rfl) ?_
    refine dp_get hx hb hts (dp_hin 91 rfl) hown hK hD.1 rfl 0 (by decide) (hts (.fieldLink RX5 10 "DroopBoard" "board" "LDroopBoard$Board;") (List.mem_of_getElem? (i := 3) rfl)) rfl dX5_open_53 ?_
    refine dp_Vi hF hK hN (c_X0_frequency l D G (aB α 0) (rst (upd R (12 + 10 * j) 0) j) _ hD.2.1 hm2) (cwV 0 hts gX5_open_X0_frequency rfl rfl rfl (by decide +kernel) ⟨Nat.le_of_ble_eq_true rfl, Nat.le_of_ble_eq_true rfl⟩) (dp_recv hK hD.2.1.1 rfl) hS nA_i [] rfl rfl hl.1 (Nat.le_of_ble_eq_true rfl) dX5_open_56 ⟨Nat.le_of_ble_eq_true rfl, Nat.le_of_ble_eq_true rfl⟩ (fun rH4 H4 locs hp hzH4 hkH4 hS => ?_)
    obtain ⟨rfl, rfl⟩ := hp
    refine W.widen (k := 2) (n := 12) (Nat.le_of_ble_eq_true rfl) (Nat.le_of_ble_eq_true rfl) ?_
    refine vx_ret ?_
    exact W.iret hx hb hr (fun t ht hW => ⟨⟨fq (rst (upd R (12 + 10 * j) 0) j), H3, rfl, ⟨by simp [cOpen, nS_ok hj, hix, c2], by rw [hix], by rw [hix]; exact ⟨w, _, hw, hD⟩⟩, ht⟩, hS.F ht⟩) hS.2.2 dX5_open_59
  obtain ⟨sa, hsa⟩ := hE.2 (111, "the breaker is open") (List.mem_of_getElem? (i := 4) rfl)
  exact vx_throwS hx hb hl9 (A := A5 α) (cls := "java/lang/IllegalStateException") (names := ["java/lang/RuntimeException", "java/lang/Exception"]) hown fit_S fit_N (hts (.classLink RX5 54 "java/lang/IllegalStateException") (List.mem_of_getElem? (i := 1) rfl)) (hts (.initialized "java/lang/IllegalStateException") (List.mem_of_getElem? (i := 2) rfl)) hsa (hat_S hE (fun w h => hts w (List.mem_cons_of_mem _ (List.mem_append_left _ (List.mem_append_right _ h))))) good_S hZ.1 hZ.2.1 hS (hl.1.trans hml.symm) dX5_open_19 dX5_open_22 dX5_open_23 dX5_open_25 dX5_open_28 (fun x hx => (ht9 x hx).elim) (Nat.le_of_ble_eq_true rfl) (Nat.le_of_ble_eq_true rfl) (Nat.le_of_ble_eq_true rfl) (Nat.le_of_ble_eq_true rfl) hlocks (fun t _ hz hk => ⟨(), trivial, Or.inr ⟨rfl, by simp [cOpen, nS_ok hj, hix, c2]⟩, ⟨hz, fun q hq _ => hk q hq⟩⟩) hS.2.2 (Nat.le_of_ble_eq_true rfl) (Nat.le_of_ble_eq_true rfl)

set_option maxHeartbeats 600000 in
set_option maxRecDepth 100000 in
theorem c_X5_load (l : Launch) (hl9 : l.stackTraces = false) (D : va_G) (G : Nat → ClassId) (α : Nat → Nat) (w : Nat → Nat) (R RT RS : Nat → Int32) (kp : Int32) (sv : Nat → Nat → Int32) (n : Nat) (F : Nat → Int32) (len : Nat) (i v : Int32) (H : Heap) (hα : inj 115 α) (hw : pm w) (hD : DP D G α w R RT RS kp sv n F len H) (hbz : bz R) (hm : mono R) (hn6 : n ≤ 6) (hl6 : len ≤ 60) : vx_Met l yX5_load wsX5_load ({ frames := 7, cells := 2, slots := 12, locals := 112 } : Room) (va_Pc [.ref (α 0), .int i, .int v] (CE D G (A5 α) H)) (QI (A5 α) (fun r h => cLoad i v = 0 ∧ R (38 + 3 * ix i) = r ∧ DW D G α (upd R (38 + 3 * ix i) v) RS kp (svs sv n R) (svn n) F len h)) (XX (fun E => (E = xI ∧ cLoad i v = 1) ∨ (E = xA ∧ cLoad i v = 2))) 2 12 (A5 α) := by
  refine vx_ofW (cc := cX5_load) (maxL := 4) (ret := (some .int)) (by decide) rfl ?_
  intro p e s m args below meth c s₁ B0 hml ht9 hv
  obtain ⟨rfl, ⟨rfl, hK, hN⟩, hE, hZ⟩ := hv
  have hx := B0.exec
  have hb := B0.bytes
  have hr := B0.returns
  have hts := atoms_spec (ws := wsX5_load) B0.pre
  have hown : s.vm.findClass RX5 = some m.cls := findClass_of_methodNamed B0.named
  have hlocks := B0.notSynchronized
  have hF : CallFix p m c cX5_load 4 s ([.ref (α 0), .int i, .int v] : List Value).toArray wsX5_load RX5 := ⟨hx, hb, hml, hown, hts⟩
  have hS : va_S (A5 α) s.heap s.heap [] := va_S.rf
  have hl := lv_entry ([.ref (α 0), .int i, .int v]) (n := 4) (Nat.le_of_ble_eq_true rfl)
  rw [lg_entry_eq]
  generalize (lg_sl ([.ref (α 0), .int i, .int v]) ++ List.replicate (4 - (lg_sl ([.ref (α 0), .int i, .int v])).length) Slot.unset).toArray = ls at hl ⊢
  have hl : lv_has ls 4 [(0, .ref (α 0)), (1, .int i), (2, .int v)] := hl
  refine lv_iload_n hx hb dX5_load_0 rfl (lv_at hl 1 rfl) ?_
  refine dpx_Sv hF hK hN hE hZ ht9 hlocks (c_X5_needFeeder l hl9 D G i _) (va_cwS 1 hts gX5_load_X5_needFeeder rfl rfl rfl (by decide +kernel) ⟨Nat.le_of_ble_eq_true rfl, Nat.le_of_ble_eq_true rfl⟩) hS [] rfl rfl hl.1 (Nat.le_of_ble_eq_true rfl) dX5_load_1 ⟨Nat.le_of_ble_eq_true rfl, Nat.le_of_ble_eq_true rfl⟩ (fun E h => Or.inl ⟨h.1, by simp [cLoad, nF_bad h.2]⟩) (fun H1 h q hq _ => h q hq) ⟨Nat.le_of_ble_eq_true rfl, Nat.le_of_ble_eq_true rfl⟩ (fun H1 locs hp _ _ hS => ?_)
  obtain ⟨rfl, j, hj, rfl⟩ := hp
  have hix : ix (nI j) = j := ix_nI (by omega)
  refine lv_iload_n hx hb dX5_load_4 rfl (lv_at hl 2 rfl) ?_
  refine lv_iconst (v := 0) hx hb dX5_load_5 (by decide) ?_
  refine lv_sipush (v := 300) hx hb dX5_load_6 (by decide) ?_
  refine dpx_Sv hF hK hN hE hZ ht9 hlocks (c_X5_needRange l hl9 D G v 0 300 _) (va_cwS 3 hts gX5_load_X5_needRange rfl rfl rfl (by decide +kernel) ⟨Nat.le_of_ble_eq_true rfl, Nat.le_of_ble_eq_true rfl⟩) hS [] rfl rfl hl.1 (Nat.le_of_ble_eq_true rfl) dX5_load_9 ⟨Nat.le_of_ble_eq_true rfl, Nat.le_of_ble_eq_true rfl⟩ (fun E h => Or.inr ⟨h.1, by simp [cLoad, nF_ok hj, hix, nR_bad h.2]⟩) (fun H1 h q hq _ => h q hq) ⟨Nat.le_of_ble_eq_true rfl, Nat.le_of_ble_eq_true rfl⟩ (fun H2 locs hp _ _ hS => ?_)
  obtain ⟨rfl, hr2⟩ := hp
  refine lv_aload_n hx hb dX5_load_12 rfl (lv_at hl 0 rfl) ?_
  refine dp_get hx hb hts (dp_hin 63 rfl) hown hK hD.1 rfl 4 (by decide) (hts (.fieldLink RX5 25 "DroopBoard" "history" "LDroopBoard$History;") (List.mem_of_getElem? (i := 1) rfl)) rfl dX5_load_13 ?_
  refine lv_aload_n hx hb dX5_load_16 rfl (lv_at hl 0 rfl) ?_
  refine dp_get hx hb hts (dp_hin 63 rfl) hown hK hD.1 rfl 0 (by decide) (hts (.fieldLink RX5 10 "DroopBoard" "board" "LDroopBoard$Board;") (List.mem_of_getElem? (i := 2) rfl)) rfl dX5_load_17 ?_
  refine dp_Vv hF hK hN (c_X3_save l D G (hh α) (sB α) w sv n (aB α 0) R _ hD.2.2.2.2.1 (hap_a hα) hw hD.2.1 (sB_b hα) hbz (hh_b hα) hn6) (cwV 1 hts gX5_load_X3_save rfl rfl rfl (by decide +kernel) ⟨Nat.le_of_ble_eq_true rfl, Nat.le_of_ble_eq_true rfl⟩) (dp_recv hK hD.2.2.2.2.1.1 rfl) hS A5_h [] rfl rfl hl.1 (Nat.le_of_ble_eq_true rfl) dX5_load_20 ⟨Nat.le_of_ble_eq_true rfl, Nat.le_of_ble_eq_true rfl⟩ (fun H3 locs hp hzH3 hkH3 hS => ?_)
  obtain ⟨hz9, w, hw, hI9⟩ := hp
  have hD := hD.hist hα hI9 (fun q hq => hq) hkH3
  refine lv_aload_n hx hb dX5_load_23 rfl (lv_at hl 0 rfl) ?_
  refine dp_get hx hb hts (dp_hin 63 rfl) hown hK hD.1 rfl 0 (by decide) (hts (.fieldLink RX5 10 "DroopBoard" "board" "LDroopBoard$Board;") (List.mem_of_getElem? (i := 2) rfl)) rfl dX5_load_24 ?_
  refine dp_get hx hb hts (dp_hin 69 rfl) hown hK hD.2.1.1 rfl 1 (by decide) (hts (.fieldLink RX5 119 "DroopBoard$Board" "feeders" "[LDroopBoard$Feeder;") (List.mem_of_getElem? (i := 3) rfl)) rfl dX5_load_27 ?_
  refine lv_iload_n hx hb dX5_load_30 rfl (lv_at hl 1 rfl) ?_
  refine dp_aald hx hb hK hD.2.1.2.2.1 2 rfl j rfl hj (by decide) rfl dX5_load_31 ?_
  refine dp_get hx hb hts (dp_hin 74 rfl) hown hK (hD.2.1.2.2.2.2.2 j hj) rfl 0 (by decide) (hts (.fieldLink RX5 123 "DroopBoard$Feeder" "load" "I") (List.mem_of_getElem? (i := 4) rfl)) rfl dX5_load_32 ?_
  refine lv_istore_n (lv' := [(3, .int (R (38 + 3 * j))), (0, .ref (α 0)), (1, .int (nI j)), (2, .int v)]) hx hb dX5_load_35 rfl hl (by decide) rfl (fun ls hl => ?_)
  refine lv_aload_n hx hb dX5_load_36 rfl (lv_at hl 1 rfl) ?_
  refine dp_get hx hb hts (dp_hin 63 rfl) hown hK hD.1 rfl 0 (by decide) (hts (.fieldLink RX5 10 "DroopBoard" "board" "LDroopBoard$Board;") (List.mem_of_getElem? (i := 2) rfl)) rfl dX5_load_37 ?_
  refine dp_get hx hb hts (dp_hin 69 rfl) hown hK hD.2.1.1 rfl 1 (by decide) (hts (.fieldLink RX5 119 "DroopBoard$Board" "feeders" "[LDroopBoard$Feeder;") (List.mem_of_getElem? (i := 3) rfl)) rfl dX5_load_40 ?_
  refine lv_iload_n hx hb dX5_load_43 rfl (lv_at hl 2 rfl) ?_
  refine dp_aald hx hb hK hD.2.1.2.2.1 2 rfl j rfl hj (by decide) rfl dX5_load_44 ?_
  refine lv_iload_n hx hb dX5_load_45 rfl (lv_at hl 3 rfl) ?_
  refine dp_put (A := A5 α) (v := .int v) hx hb hts (dp_hin 74 rfl) tyX2 tyX2_ok nmX2 hown hK (hD.2.1.2.2.2.2.2 j hj) (A5_b (j := 0) (by omega) _ ⟨7 + j, by omega, rfl⟩) hS rfl 0 (by decide) (hts (.fieldLink RX5 123 "DroopBoard$Feeder" "load" "I") (List.mem_of_getElem? (i := 4) rfl)) rfl rfl rfl (Nat.le_of_ble_eq_true rfl) dX5_load_46 (fun H4 locs hH4 hzH4 hkH4 hS => ?_)
  have hB9 : BD D G (aB α 0) (upd R (38 + 3 * j) v) H4 := BD.putF (k := 0) (by omega) hD.2.1 (aB_inj hα (by omega)) hj hH4 hkH4
  have hD := hD.board (A := fun q => q = (aB α 0) (7 + j)) hα hw hB9 (fun q hq => ⟨7 + j, by omega, hq⟩) (fun q _ hne => hkH4 q hne)
  refine lv_iload_n hx hb dX5_load_49 rfl (lv_at hl 0 rfl) ?_
  refine W.widen (k := 2) (n := 12) (Nat.le_of_ble_eq_true rfl) (Nat.le_of_ble_eq_true rfl) ?_
  refine vx_ret ?_
  exact W.iret hx hb hr (fun t ht hW => ⟨⟨R (38 + 3 * j), H4, rfl, ⟨by simp [cLoad, nF_ok hj, hix, nR_ok hr2], by rw [hix], by rw [hix]; exact ⟨w, _, hw, hD⟩⟩, ht⟩, hS.F ht⟩) hS.2.2 dX5_load_50

set_option maxHeartbeats 600000 in
set_option maxRecDepth 100000 in
theorem c_X5_feeder (l : Launch) (hl9 : l.stackTraces = false) (D : va_G) (G : Nat → ClassId) (α : Nat → Nat) (w : Nat → Nat) (R RT RS : Nat → Int32) (kp : Int32) (sv : Nat → Nat → Int32) (n : Nat) (F : Nat → Int32) (len : Nat) (i v : Int32) (H : Heap) (hα : inj 115 α) (hw : pm w) (hD : DP D G α w R RT RS kp sv n F len H) (hbz : bz R) (hm : mono R) (hn6 : n ≤ 6) (hl6 : len ≤ 60) : vx_Met l yX5_feeder wsX5_feeder ({ frames := 7, cells := 2, slots := 12, locals := 112 } : Room) (va_Pc [.ref (α 0), .int i, .int v] (CE D G (A5 α) H)) (QI (A5 α) (fun r h => cFeed i v = 0 ∧ (if R (39 + 3 * ix i) = 0 then 0 else 1) = r ∧ DW D G α (upd R (39 + 3 * ix i) v) RS kp (svs sv n R) (svn n) F len h)) (XX (fun E => (E = xI ∧ cFeed i v = 1) ∨ (E = xA ∧ cFeed i v = 2))) 2 12 (A5 α) := by
  refine vx_ofW (cc := cX5_feeder) (maxL := 4) (ret := (some .int)) (by decide) rfl ?_
  intro p e s m args below meth c s₁ B0 hml ht9 hv
  obtain ⟨rfl, ⟨rfl, hK, hN⟩, hE, hZ⟩ := hv
  have hx := B0.exec
  have hb := B0.bytes
  have hr := B0.returns
  have hts := atoms_spec (ws := wsX5_feeder) B0.pre
  have hown : s.vm.findClass RX5 = some m.cls := findClass_of_methodNamed B0.named
  have hlocks := B0.notSynchronized
  have hF : CallFix p m c cX5_feeder 4 s ([.ref (α 0), .int i, .int v] : List Value).toArray wsX5_feeder RX5 := ⟨hx, hb, hml, hown, hts⟩
  have hS : va_S (A5 α) s.heap s.heap [] := va_S.rf
  have hl := lv_entry ([.ref (α 0), .int i, .int v]) (n := 4) (Nat.le_of_ble_eq_true rfl)
  rw [lg_entry_eq]
  generalize (lg_sl ([.ref (α 0), .int i, .int v]) ++ List.replicate (4 - (lg_sl ([.ref (α 0), .int i, .int v])).length) Slot.unset).toArray = ls at hl ⊢
  have hl : lv_has ls 4 [(0, .ref (α 0)), (1, .int i), (2, .int v)] := hl
  refine lv_iload_n hx hb dX5_feeder_0 rfl (lv_at hl 1 rfl) ?_
  refine dpx_Sv hF hK hN hE hZ ht9 hlocks (c_X5_needFeeder l hl9 D G i _) (va_cwS 1 hts gX5_feeder_X5_needFeeder rfl rfl rfl (by decide +kernel) ⟨Nat.le_of_ble_eq_true rfl, Nat.le_of_ble_eq_true rfl⟩) hS [] rfl rfl hl.1 (Nat.le_of_ble_eq_true rfl) dX5_feeder_1 ⟨Nat.le_of_ble_eq_true rfl, Nat.le_of_ble_eq_true rfl⟩ (fun E h => Or.inl ⟨h.1, by simp [cFeed, nF_bad h.2]⟩) (fun H1 h q hq _ => h q hq) ⟨Nat.le_of_ble_eq_true rfl, Nat.le_of_ble_eq_true rfl⟩ (fun H1 locs hp _ _ hS => ?_)
  obtain ⟨rfl, j, hj, rfl⟩ := hp
  have hix : ix (nI j) = j := ix_nI (by omega)
  refine lv_iload_n hx hb dX5_feeder_4 rfl (lv_at hl 2 rfl) ?_
  refine lv_iconst (v := 0) hx hb dX5_feeder_5 (by decide) ?_
  refine lv_iconst (v := 1) hx hb dX5_feeder_6 (by decide) ?_
  refine dpx_Sv hF hK hN hE hZ ht9 hlocks (c_X5_needRange l hl9 D G v 0 1 _) (va_cwS 3 hts gX5_feeder_X5_needRange rfl rfl rfl (by decide +kernel) ⟨Nat.le_of_ble_eq_true rfl, Nat.le_of_ble_eq_true rfl⟩) hS [] rfl rfl hl.1 (Nat.le_of_ble_eq_true rfl) dX5_feeder_7 ⟨Nat.le_of_ble_eq_true rfl, Nat.le_of_ble_eq_true rfl⟩ (fun E h => Or.inr ⟨h.1, by simp [cFeed, nF_ok hj, hix, nR_bad h.2]⟩) (fun H1 h q hq _ => h q hq) ⟨Nat.le_of_ble_eq_true rfl, Nat.le_of_ble_eq_true rfl⟩ (fun H2 locs hp _ _ hS => ?_)
  obtain ⟨rfl, hr2⟩ := hp
  refine lv_aload_n hx hb dX5_feeder_10 rfl (lv_at hl 0 rfl) ?_
  refine dp_get hx hb hts (dp_hin 66 rfl) hown hK hD.1 rfl 4 (by decide) (hts (.fieldLink RX5 25 "DroopBoard" "history" "LDroopBoard$History;") (List.mem_of_getElem? (i := 1) rfl)) rfl dX5_feeder_11 ?_
  refine lv_aload_n hx hb dX5_feeder_14 rfl (lv_at hl 0 rfl) ?_
  refine dp_get hx hb hts (dp_hin 66 rfl) hown hK hD.1 rfl 0 (by decide) (hts (.fieldLink RX5 10 "DroopBoard" "board" "LDroopBoard$Board;") (List.mem_of_getElem? (i := 2) rfl)) rfl dX5_feeder_15 ?_
  refine dp_Vv hF hK hN (c_X3_save l D G (hh α) (sB α) w sv n (aB α 0) R _ hD.2.2.2.2.1 (hap_a hα) hw hD.2.1 (sB_b hα) hbz (hh_b hα) hn6) (cwV 1 hts gX5_feeder_X3_save rfl rfl rfl (by decide +kernel) ⟨Nat.le_of_ble_eq_true rfl, Nat.le_of_ble_eq_true rfl⟩) (dp_recv hK hD.2.2.2.2.1.1 rfl) hS A5_h [] rfl rfl hl.1 (Nat.le_of_ble_eq_true rfl) dX5_feeder_18 ⟨Nat.le_of_ble_eq_true rfl, Nat.le_of_ble_eq_true rfl⟩ (fun H3 locs hp hzH3 hkH3 hS => ?_)
  obtain ⟨hz9, w, hw, hI9⟩ := hp
  have hD := hD.hist hα hI9 (fun q hq => hq) hkH3
  refine lv_aload_n hx hb dX5_feeder_21 rfl (lv_at hl 0 rfl) ?_
  refine dp_get hx hb hts (dp_hin 66 rfl) hown hK hD.1 rfl 0 (by decide) (hts (.fieldLink RX5 10 "DroopBoard" "board" "LDroopBoard$Board;") (List.mem_of_getElem? (i := 2) rfl)) rfl dX5_feeder_22 ?_
  refine dp_get hx hb hts (dp_hin 72 rfl) hown hK hD.2.1.1 rfl 1 (by decide) (hts (.fieldLink RX5 119 "DroopBoard$Board" "feeders" "[LDroopBoard$Feeder;") (List.mem_of_getElem? (i := 3) rfl)) rfl dX5_feeder_25 ?_
  refine lv_iload_n hx hb dX5_feeder_28 rfl (lv_at hl 1 rfl) ?_
  refine dp_aald hx hb hK hD.2.1.2.2.1 2 rfl j rfl hj (by decide) rfl dX5_feeder_29 ?_
  refine dp_get hx hb hts (dp_hin 77 rfl) hown hK (hD.2.1.2.2.2.2.2 j hj) rfl 1 (by decide) (hts (.fieldLink RX5 128 "DroopBoard$Feeder" "on" "Z") (List.mem_of_getElem? (i := 4) rfl)) rfl dX5_feeder_30 ?_
  refine dp_Si hF hK hN (c_X5_oneIf l D G (R (39 + 3 * j)) _) (va_cwS 1 hts gX5_feeder_X5_oneIf rfl rfl rfl (by decide +kernel) ⟨Nat.le_of_ble_eq_true rfl, Nat.le_of_ble_eq_true rfl⟩) hS nA_i [] rfl rfl hl.1 (Nat.le_of_ble_eq_true rfl) dX5_feeder_33 ⟨Nat.le_of_ble_eq_true rfl, Nat.le_of_ble_eq_true rfl⟩ (fun rH4 H4 locs hp hzH4 hkH4 hS => ?_)
  obtain ⟨rfl, rfl⟩ := hp
  refine lv_istore_n (lv' := [(3, .int ((if R (39 + 3 * j) = 0 then 0 else 1))), (0, .ref (α 0)), (1, .int (nI j)), (2, .int v)]) hx hb dX5_feeder_36 rfl hl (by decide) rfl (fun ls hl => ?_)
  refine lv_aload_n hx hb dX5_feeder_37 rfl (lv_at hl 1 rfl) ?_
  refine dp_get hx hb hts (dp_hin 66 rfl) hown hK hD.1 rfl 0 (by decide) (hts (.fieldLink RX5 10 "DroopBoard" "board" "LDroopBoard$Board;") (List.mem_of_getElem? (i := 2) rfl)) rfl dX5_feeder_38 ?_
  refine dp_get hx hb hts (dp_hin 72 rfl) hown hK hD.2.1.1 rfl 1 (by decide) (hts (.fieldLink RX5 119 "DroopBoard$Board" "feeders" "[LDroopBoard$Feeder;") (List.mem_of_getElem? (i := 3) rfl)) rfl dX5_feeder_41 ?_
  refine lv_iload_n hx hb dX5_feeder_44 rfl (lv_at hl 2 rfl) ?_
  refine dp_aald hx hb hK hD.2.1.2.2.1 2 rfl j rfl hj (by decide) rfl dX5_feeder_45 ?_
  refine lv_iload_n hx hb dX5_feeder_46 rfl (lv_at hl 3 rfl) ?_
  refine lv_iconst (v := 1) hx hb dX5_feeder_47 (by decide) ?_
  refine lv_icmp_ne (tgt := 55) hx hb dX5_feeder_48 (by decide) (fun c3 => ?_) (fun c3 => ?_)
  · obtain rfl : v = 0 := v0_of hr2 c3
    refine lv_iconst (v := 0) hx hb dX5_feeder_55 (by decide) ?_
    refine dp_put (A := A5 α) (v := .int 0) hx hb hts (dp_hin 77 rfl) tyX2 tyX2_ok nmX2 hown hK (hD.2.1.2.2.2.2.2 j hj) (A5_b (j := 0) (by omega) _ ⟨7 + j, by omega, rfl⟩) hS rfl 1 (by decide) (hts (.fieldLink RX5 128 "DroopBoard$Feeder" "on" "Z") (List.mem_of_getElem? (i := 4) rfl)) rfl rfl rfl (Nat.le_of_ble_eq_true rfl) dX5_feeder_56 (fun H5 locs hH5 hzH5 hkH5 hS => ?_)
    have hB9 : BD D G (aB α 0) (upd R (39 + 3 * j) 0) H5 := BD.putF (k := 1) (by omega) hD.2.1 (aB_inj hα (by omega)) hj hH5 hkH5
    have hD := hD.board (A := fun q => q = (aB α 0) (7 + j)) hα hw hB9 (fun q hq => ⟨7 + j, by omega, hq⟩) (fun q _ hne => hkH5 q hne)
    refine lv_iload_n hx hb dX5_feeder_59 rfl (lv_at hl 0 rfl) ?_
    refine W.widen (k := 2) (n := 12) (Nat.le_of_ble_eq_true rfl) (Nat.le_of_ble_eq_true rfl) ?_
    refine vx_ret ?_
    exact W.iret hx hb hr (fun t ht hW => ⟨⟨(if R (39 + 3 * j) = 0 then 0 else 1), H5, rfl, ⟨by simp [cFeed, nF_ok hj, hix, nR_ok hr2, c3], by rw [hix], by rw [hix]; exact ⟨w, _, hw, hD⟩⟩, ht⟩, hS.F ht⟩) hS.2.2 dX5_feeder_60
  obtain rfl : v = 1 := by simpa using c3
  refine lv_iconst (v := 1) hx hb dX5_feeder_51 (by decide) ?_
  refine lv_goto (tgt := 56) hx hb dX5_feeder_52 (by decide) ?_
  refine dp_put (A := A5 α) (v := .int 1) hx hb hts (dp_hin 77 rfl) tyX2 tyX2_ok nmX2 hown hK (hD.2.1.2.2.2.2.2 j hj) (A5_b (j := 0) (by omega) _ ⟨7 + j, by omega, rfl⟩) hS rfl 1 (by decide) (hts (.fieldLink RX5 128 "DroopBoard$Feeder" "on" "Z") (List.mem_of_getElem? (i := 4) rfl)) rfl rfl rfl (Nat.le_of_ble_eq_true rfl) dX5_feeder_56 (fun H6 locs hH6 hzH6 hkH6 hS => ?_)
  have hB9 : BD D G (aB α 0) (upd R (39 + 3 * j) 1) H6 := BD.putF (k := 1) (by omega) hD.2.1 (aB_inj hα (by omega)) hj hH6 hkH6
  have hD := hD.board (A := fun q => q = (aB α 0) (7 + j)) hα hw hB9 (fun q hq => ⟨7 + j, by omega, hq⟩) (fun q _ hne => hkH6 q hne)
  refine lv_iload_n hx hb dX5_feeder_59 rfl (lv_at hl 0 rfl) ?_
  refine W.widen (k := 2) (n := 12) (Nat.le_of_ble_eq_true rfl) (Nat.le_of_ble_eq_true rfl) ?_
  refine vx_ret ?_
  exact W.iret hx hb hr (fun t ht hW => ⟨⟨(if R (39 + 3 * j) = 0 then 0 else 1), H6, rfl, ⟨by simp [cFeed, nF_ok hj, hix, nR_ok hr2, c3], by rw [hix], by rw [hix]; exact ⟨w, _, hw, hD⟩⟩, ht⟩, hS.F ht⟩) hS.2.2 dX5_feeder_60

set_option maxHeartbeats 600000 in
set_option maxRecDepth 100000 in
theorem c_X5_pass (l : Launch) (hl9 : l.stackTraces = false) (D : va_G) (G : Nat → ClassId) (α : Nat → Nat) (w : Nat → Nat) (R RT RS : Nat → Int32) (kp : Int32) (sv : Nat → Nat → Int32) (n : Nat) (F : Nat → Int32) (len : Nat) (t : Int32) (H : Heap) (hα : inj 115 α) (hw : pm w) (hD : DP D G α w R RT RS kp sv n F len H) (hbz : bz R) (hm : mono R) (hn6 : n ≤ 6) (hl6 : len ≤ 60) (hmp : ∀ k, k < 99 → mono (pt R k)) : vx_Met l yX5_pass wsX5_pass ({ frames := 7, cells := 1, slots := 6, locals := 115 } : Room) (va_Pc [.ref (α 0), .int t] (CE D G (A5 α) H)) (QI (A5 α) (fun r h => cPass t = 0 ∧ ptn R (ix t) = r ∧ DW D G α (pt R (ix t)) RS kp (svs sv n R) (svn n) F len h)) (XX (fun E => (E = xA ∧ cPass t = 1))) 1 6 (A5 α) := by
  refine vx_ofW (cc := cX5_pass) (maxL := 2) (ret := (some .int)) (by decide) rfl ?_
  intro p e s m args below meth c s₁ B0 hml ht9 hv
  obtain ⟨rfl, ⟨rfl, hK, hN⟩, hE, hZ⟩ := hv
  have hx := B0.exec
  have hb := B0.bytes
  have hr := B0.returns
  have hts := atoms_spec (ws := wsX5_pass) B0.pre
  have hown : s.vm.findClass RX5 = some m.cls := findClass_of_methodNamed B0.named
  have hlocks := B0.notSynchronized
  have hF : CallFix p m c cX5_pass 2 s ([.ref (α 0), .int t] : List Value).toArray wsX5_pass RX5 := ⟨hx, hb, hml, hown, hts⟩
  have hS : va_S (A5 α) s.heap s.heap [] := va_S.rf
  have hl := lv_entry ([.ref (α 0), .int t]) (n := 2) (Nat.le_of_ble_eq_true rfl)
  rw [lg_entry_eq]
  generalize (lg_sl ([.ref (α 0), .int t]) ++ List.replicate (2 - (lg_sl ([.ref (α 0), .int t])).length) Slot.unset).toArray = ls at hl ⊢
  have hl : lv_has ls 2 [(0, .ref (α 0)), (1, .int t)] := hl
  refine lv_iload_n hx hb dX5_pass_0 rfl (lv_at hl 1 rfl) ?_
  refine lv_iconst (v := 1) hx hb dX5_pass_1 (by decide) ?_
  refine lv_bipush (v := 99) hx hb dX5_pass_2 (by decide) ?_
  refine dpx_Sv hF hK hN hE hZ ht9 hlocks (c_X5_needRange l hl9 D G t 1 99 _) (va_cwS 3 hts gX5_pass_X5_needRange rfl rfl rfl (by decide +kernel) ⟨Nat.le_of_ble_eq_true rfl, Nat.le_of_ble_eq_true rfl⟩) hS [] rfl rfl hl.1 (Nat.le_of_ble_eq_true rfl) dX5_pass_4 ⟨Nat.le_of_ble_eq_true rfl, Nat.le_of_ble_eq_true rfl⟩ (fun E h => ⟨h.1, by simp [cPass, nR_bad h.2]⟩) (fun H1 h q hq _ => h q hq) ⟨Nat.le_of_ble_eq_true rfl, Nat.le_of_ble_eq_true rfl⟩ (fun H1 locs hp _ _ hS => ?_)
  obtain ⟨rfl, hr1⟩ := hp
  obtain ⟨j, hj, rfl⟩ := pass_nI hr1
  have hix : ix (nI j) = j := ix_nI (by omega)
  refine lv_aload_n hx hb dX5_pass_7 rfl (lv_at hl 0 rfl) ?_
  refine dp_get hx hb hts (dp_hin 128 rfl) hown hK hD.1 rfl 4 (by decide) (hts (.fieldLink RX5 25 "DroopBoard" "history" "LDroopBoard$History;") (List.mem_of_getElem? (i := 1) rfl)) rfl dX5_pass_8 ?_
  refine lv_aload_n hx hb dX5_pass_11 rfl (lv_at hl 0 rfl) ?_
  refine dp_get hx hb hts (dp_hin 128 rfl) hown hK hD.1 rfl 0 (by decide) (hts (.fieldLink RX5 10 "DroopBoard" "board" "LDroopBoard$Board;") (List.mem_of_getElem? (i := 2) rfl)) rfl dX5_pass_12 ?_
  refine dp_Vv hF hK hN (c_X3_save l D G (hh α) (sB α) w sv n (aB α 0) R _ hD.2.2.2.2.1 (hap_a hα) hw hD.2.1 (sB_b hα) hbz (hh_b hα) hn6) (cwV 1 hts gX5_pass_X3_save rfl rfl rfl (by decide +kernel) ⟨Nat.le_of_ble_eq_true rfl, Nat.le_of_ble_eq_true rfl⟩) (dp_recv hK hD.2.2.2.2.1.1 rfl) hS A5_h [] rfl rfl hl.1 (Nat.le_of_ble_eq_true rfl) dX5_pass_15 ⟨Nat.le_of_ble_eq_true rfl, Nat.le_of_ble_eq_true rfl⟩ (fun H2 locs hp hzH2 hkH2 hS => ?_)
  obtain ⟨hz9, w, hw, hI9⟩ := hp
  have hD := hD.hist hα hI9 (fun q hq => hq) hkH2
  refine lv_aload_n hx hb dX5_pass_18 rfl (lv_at hl 0 rfl) ?_
  refine dp_get hx hb hts (dp_hin 128 rfl) hown hK hD.1 rfl 0 (by decide) (hts (.fieldLink RX5 10 "DroopBoard" "board" "LDroopBoard$Board;") (List.mem_of_getElem? (i := 2) rfl)) rfl dX5_pass_19 ?_
  refine lv_iload_n hx hb dX5_pass_22 rfl (lv_at hl 1 rfl) ?_
  refine dp_Vi hF hK hN (c_X0_passTicks l D G (aB α 0) R j _ hD.2.1 (aB_inj hα (by omega)) (by omega) (fun k hk => hmp k (by omega))) (cwV 1 hts gX5_pass_X0_passTicks rfl rfl rfl (by decide +kernel) ⟨Nat.le_of_ble_eq_true rfl, Nat.le_of_ble_eq_true rfl⟩) (dp_recv hK hD.2.1.1 rfl) hS (A5_b (by omega)) [] rfl rfl hl.1 (Nat.le_of_ble_eq_true rfl) dX5_pass_23 ⟨Nat.le_of_ble_eq_true rfl, Nat.le_of_ble_eq_true rfl⟩ (fun rH3 H3 locs hp hzH3 hkH3 hS => ?_)
  obtain ⟨hz9, hB9, rfl⟩ := hp
  have hD := hD.board hα hw hB9 (fun q hq => hq) hkH3
  refine W.widen (k := 1) (n := 6) (Nat.le_of_ble_eq_true rfl) (Nat.le_of_ble_eq_true rfl) ?_
  refine vx_ret ?_
  exact W.iret hx hb hr (fun t ht hW => ⟨⟨ptn R j, H3, rfl, ⟨by simp [cPass, nR_ok hr1], by rw [hix], by rw [hix]; exact ⟨w, _, hw, hD⟩⟩, ht⟩, hS.F ht⟩) hS.2.2 dX5_pass_26

set_option maxHeartbeats 600000 in
set_option maxRecDepth 100000 in
theorem c_X5_set (l : Launch) (hl9 : l.stackTraces = false) (D : va_G) (G : Nat → ClassId) (α : Nat → Nat) (w : Nat → Nat) (R RT RS : Nat → Int32) (kp : Int32) (sv : Nat → Nat → Int32) (n : Nat) (F : Nat → Int32) (len : Nat) (i v : Int32) (H : Heap) (hα : inj 115 α) (hw : pm w) (hD : DP D G α w R RT RS kp sv n F len H) (hbz : bz R) (hm : mono R) (hn6 : n ≤ 6) (hl6 : len ≤ 60) : vx_Met l yX5_set wsX5_set ({ frames := 7, cells := 2, slots := 12, locals := 112 } : Room) (va_Pc [.ref (α 0), .int i, .int v] (CE D G (A5 α) H)) (QI (A5 α) (fun r h => cSet i v = 0 ∧ R (ix i) = r ∧ DW D G α (upd R (ix i) v) RS kp (svs sv n R) (svn n) F len h)) (XX (fun E => (E = xI ∧ cSet i v = 1) ∨ (E = xA ∧ cSet i v = 2))) 2 12 (A5 α) := by
  refine vx_ofW (cc := cX5_set) (maxL := 4) (ret := (some .int)) (by decide) rfl ?_
  intro p e s m args below meth c s₁ B0 hml ht9 hv
  obtain ⟨rfl, ⟨rfl, hK, hN⟩, hE, hZ⟩ := hv
  have hx := B0.exec
  have hb := B0.bytes
  have hr := B0.returns
  have hts := atoms_spec (ws := wsX5_set) B0.pre
  have hown : s.vm.findClass RX5 = some m.cls := findClass_of_methodNamed B0.named
  have hlocks := B0.notSynchronized
  have hF : CallFix p m c cX5_set 4 s ([.ref (α 0), .int i, .int v] : List Value).toArray wsX5_set RX5 := ⟨hx, hb, hml, hown, hts⟩
  have hS : va_S (A5 α) s.heap s.heap [] := va_S.rf
  have hl := lv_entry ([.ref (α 0), .int i, .int v]) (n := 4) (Nat.le_of_ble_eq_true rfl)
  rw [lg_entry_eq]
  generalize (lg_sl ([.ref (α 0), .int i, .int v]) ++ List.replicate (4 - (lg_sl ([.ref (α 0), .int i, .int v])).length) Slot.unset).toArray = ls at hl ⊢
  have hl : lv_has ls 4 [(0, .ref (α 0)), (1, .int i), (2, .int v)] := hl
  obtain ⟨tL, hL1, hL2⟩ := hZ.2.2.1
  obtain ⟨tM, hM1, hM2⟩ := hZ.2.2.2
  refine lv_iload_n hx hb dX5_set_0 rfl (lv_at hl 1 rfl) ?_
  refine dpx_Sv hF hK hN hE hZ ht9 hlocks (c_X5_needSetting l hl9 D G i _) (va_cwS 1 hts gX5_set_X5_needSetting rfl rfl rfl (by decide +kernel) ⟨Nat.le_of_ble_eq_true rfl, Nat.le_of_ble_eq_true rfl⟩) hS [] rfl rfl hl.1 (Nat.le_of_ble_eq_true rfl) dX5_set_1 ⟨Nat.le_of_ble_eq_true rfl, Nat.le_of_ble_eq_true rfl⟩ (fun E h => Or.inl ⟨h.1, by simp [cSet, nF_bad h.2]⟩) (fun H1 h q hq _ => h q hq) ⟨Nat.le_of_ble_eq_true rfl, Nat.le_of_ble_eq_true rfl⟩ (fun H1 locs hp _ _ hS => ?_)
  obtain ⟨rfl, j, hj, rfl⟩ := hp
  have hix : ix (nI j) = j := ix_nI (by omega)
  refine lv_iload_n hx hb dX5_set_4 rfl (lv_at hl 2 rfl) ?_
  refine va_gets (C := RX5) (n := "LEAST_OF_SETTING") (d := "[I") hx hb hL1 hS hown (hts (.fieldLink RX5 141 "DroopBoard" "LEAST_OF_SETTING" "[I") (List.mem_of_getElem? (i := 1) rfl)) (fun _ h => h) dX5_set_5 ?_
  refine lv_iload_n hx hb dX5_set_8 rfl (lv_at hl 1 rfl) ?_
  refine va_ti (v := .int (lst j)) hx hb hL2 hS (i := nI j) (vp_in_nI hj (by decide)) (by rw [nI_clamp (by omega)]) dX5_set_9 ?_
  refine va_gets (C := RX5) (n := "MOST_OF_SETTING") (d := "[I") hx hb hM1 hS hown (hts (.fieldLink RX5 145 "DroopBoard" "MOST_OF_SETTING" "[I") (List.mem_of_getElem? (i := 2) rfl)) (fun _ h => h) dX5_set_10 ?_
  refine lv_iload_n hx hb dX5_set_13 rfl (lv_at hl 1 rfl) ?_
  refine va_ti (v := .int (mst j)) hx hb hM2 hS (i := nI j) (vp_in_nI hj (by decide)) (by rw [nI_clamp (by omega)]) dX5_set_14 ?_
  refine dpx_Sv hF hK hN hE hZ ht9 hlocks (c_X5_needRange l hl9 D G v (lst j) (mst j) _) (va_cwS 3 hts gX5_set_X5_needRange rfl rfl rfl (by decide +kernel) ⟨Nat.le_of_ble_eq_true rfl, Nat.le_of_ble_eq_true rfl⟩) hS [] rfl rfl hl.1 (Nat.le_of_ble_eq_true rfl) dX5_set_15 ⟨Nat.le_of_ble_eq_true rfl, Nat.le_of_ble_eq_true rfl⟩ (fun E h => Or.inr ⟨h.1, by simp [cSet, nF_ok hj, hix, nR_bad h.2]⟩) (fun H1 h q hq _ => h q hq) ⟨Nat.le_of_ble_eq_true rfl, Nat.le_of_ble_eq_true rfl⟩ (fun H2 locs hp _ _ hS => ?_)
  obtain ⟨rfl, hr2⟩ := hp
  refine lv_aload_n hx hb dX5_set_18 rfl (lv_at hl 0 rfl) ?_
  refine dp_get hx hb hts (dp_hin 61 rfl) hown hK hD.1 rfl 4 (by decide) (hts (.fieldLink RX5 25 "DroopBoard" "history" "LDroopBoard$History;") (List.mem_of_getElem? (i := 3) rfl)) rfl dX5_set_19 ?_
  refine lv_aload_n hx hb dX5_set_22 rfl (lv_at hl 0 rfl) ?_
  refine dp_get hx hb hts (dp_hin 61 rfl) hown hK hD.1 rfl 0 (by decide) (hts (.fieldLink RX5 10 "DroopBoard" "board" "LDroopBoard$Board;") (List.mem_of_getElem? (i := 4) rfl)) rfl dX5_set_23 ?_
  refine dp_Vv hF hK hN (c_X3_save l D G (hh α) (sB α) w sv n (aB α 0) R _ hD.2.2.2.2.1 (hap_a hα) hw hD.2.1 (sB_b hα) hbz (hh_b hα) hn6) (cwV 1 hts gX5_set_X3_save rfl rfl rfl (by decide +kernel) ⟨Nat.le_of_ble_eq_true rfl, Nat.le_of_ble_eq_true rfl⟩) (dp_recv hK hD.2.2.2.2.1.1 rfl) hS A5_h [] rfl rfl hl.1 (Nat.le_of_ble_eq_true rfl) dX5_set_26 ⟨Nat.le_of_ble_eq_true rfl, Nat.le_of_ble_eq_true rfl⟩ (fun H3 locs hp hzH3 hkH3 hS => ?_)
  obtain ⟨hz9, w, hw, hI9⟩ := hp
  have hD := hD.hist hα hI9 (fun q hq => hq) hkH3
  refine lv_aload_n hx hb dX5_set_29 rfl (lv_at hl 0 rfl) ?_
  refine dp_get hx hb hts (dp_hin 61 rfl) hown hK hD.1 rfl 0 (by decide) (hts (.fieldLink RX5 10 "DroopBoard" "board" "LDroopBoard$Board;") (List.mem_of_getElem? (i := 4) rfl)) rfl dX5_set_30 ?_
  refine dp_get hx hb hts (dp_hin 67 rfl) hown hK hD.2.1.1 rfl 2 (by decide) (hts (.fieldLink RX5 148 "DroopBoard$Board" "settings" "[I") (List.mem_of_getElem? (i := 5) rfl)) rfl dX5_set_33 ?_
  refine lv_iload_n hx hb dX5_set_36 rfl (lv_at hl 1 rfl) ?_
  refine dp_iald hx hb hK hD.2.1.2.2.2.1 0 rfl j rfl hj (by decide) dX5_set_37 ?_
  refine lv_istore_n (lv' := [(3, .int (R j)), (0, .ref (α 0)), (1, .int (nI j)), (2, .int v)]) hx hb dX5_set_38 rfl hl (by decide) rfl (fun ls hl => ?_)
  refine lv_aload_n hx hb dX5_set_39 rfl (lv_at hl 1 rfl) ?_
  refine dp_get hx hb hts (dp_hin 61 rfl) hown hK hD.1 rfl 0 (by decide) (hts (.fieldLink RX5 10 "DroopBoard" "board" "LDroopBoard$Board;") (List.mem_of_getElem? (i := 4) rfl)) rfl dX5_set_40 ?_
  refine dp_get hx hb hts (dp_hin 67 rfl) hown hK hD.2.1.1 rfl 2 (by decide) (hts (.fieldLink RX5 148 "DroopBoard$Board" "settings" "[I") (List.mem_of_getElem? (i := 5) rfl)) rfl dX5_set_43 ?_
  refine lv_iload_n hx hb dX5_set_46 rfl (lv_at hl 2 rfl) ?_
  refine lv_iload_n hx hb dX5_set_47 rfl (lv_at hl 3 rfl) ?_
  refine dp_iast (A := A5 α) hx hb hK hD.2.1.2.2.2.1 (A5_b (j := 0) (by omega) _ ⟨3, by omega, rfl⟩) hS 0 rfl j rfl hj (by decide) dX5_set_48 (fun H4 locs hH4 hzH4 hkH4 hS => ?_)
  have hB9 : BD D G (aB α 0) (upd R j v) H4 := BD.putS hj hD.2.1 (aB_inj hα (by omega)) hH4 hkH4
  have hD := hD.board (A := fun q => q = (aB α 0) 3) hα hw hB9 (fun q hq => ⟨3, by omega, hq⟩) (fun q _ hne => hkH4 q hne)
  refine lv_iload_n hx hb dX5_set_49 rfl (lv_at hl 0 rfl) ?_
  refine W.widen (k := 2) (n := 12) (Nat.le_of_ble_eq_true rfl) (Nat.le_of_ble_eq_true rfl) ?_
  refine vx_ret ?_
  exact W.iret hx hb hr (fun t ht hW => ⟨⟨R j, H4, rfl, ⟨by simp [cSet, nF_ok hj, hix, nR_ok hr2], by rw [hix], by rw [hix]; exact ⟨w, _, hw, hD⟩⟩, ht⟩, hS.F ht⟩) hS.2.2 dX5_set_50
