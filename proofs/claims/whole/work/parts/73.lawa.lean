set_option maxHeartbeats 600000 in
set_option maxRecDepth 100000 in
theorem c_L_build (l : Launch) (hl9 : l.stackTraces = false) (D : va_G) (G : Nat → ClassId) (α : Nat → Nat) (R RS : Nat → Int32) (kp : Int32) (sv : Nat → Nat → Int32) (n : Nat) (F : Nat → Int32) (len : Nat) (oo : Nat → Int64) (i rt dr : Int32) (H : Heap) (hα : inj 115 α) (hD0 : DW D G α R RS kp sv n F len H) (hL : va_at D vwCl (α 114, .inl (G 4, 1, .inr (.inl oo))) H) (hg : gd R) (hn6 : n ≤ 6) (hl6 : len ≤ 60) : Met l yL_build wsL_build ({ frames := 8, cells := 4, slots := 24, locals := 137 } : Room) (va_Pc [.ref (α 0), .int i, .int rt, .int dr, .ref (α 114)] (CL D G (AL α) H)) (QI (AL α) (fun r h => cBuild R i rt dr = r ∧ ((cBuild R i rt dr = 0 ∧ DW D G α (upd (upd R (8 + 10 * ix i) rt) (9 + 10 * ix i) dr) RS kp (svs sv n R) (svn n) F len h ∧ ∃ o2 : Nat → Int64, o2 0 = Int32.toInt64 (R (8 + 10 * ix i)) ∧ va_at D vwCl (α 114, .inl (G 4, 1, .inr (.inl o2))) h) ∨ (¬ cBuild R i rt dr = 0 ∧ DW D G α R RS kp sv n F len h ∧ va_at D vwCl (α 114, .inl (G 4, 1, .inr (.inl oo))) h)))) 4 24 (AL α) := by
  refine dp_ofWH (cc := cL_build) (maxL := 6) (ret := (some .int)) (by decide) rfl ?_
  intro p e s m args below meth c s₁ B0 hml hv
  obtain ⟨rfl, ⟨rfl, hK, hN⟩, hE, hZ, hC⟩ := hv
  have hx := B0.exec
  have hb := B0.bytes
  have hr := B0.returns
  have hts := atoms_spec (ws := wsL_build) B0.pre
  have htab := vx_table (x := yL_build) B0 (hts (.codeWith yL_build cL_build 6 (some .int) [(0, 12, 15, 13), (0, 12, 19, 15), (0, 12, 23, 17)]) (List.mem_of_getElem? (i := 0) rfl))
  have hown : s.vm.findClass RL = some m.cls := findClass_of_methodNamed B0.named
  have hlocks := B0.notSynchronized
  have hF : CallFix p m c cL_build 6 s ([.ref (α 0), .int i, .int rt, .int dr, .ref (α 114)] : List Value).toArray wsL_build RL := ⟨hx, hb, hml, hown, hts⟩
  have hS : va_S (AL α) s.heap s.heap [] := va_S.rf
  have hl := lv_entry ([.ref (α 0), .int i, .int rt, .int dr, .ref (α 114)]) (n := 6) (Nat.le_of_ble_eq_true rfl)
  rw [lg_entry_eq]
  generalize (lg_sl ([.ref (α 0), .int i, .int rt, .int dr, .ref (α 114)]) ++ List.replicate (6 - (lg_sl ([.ref (α 0), .int i, .int rt, .int dr, .ref (α 114)])).length) Slot.unset).toArray = ls at hl ⊢
  have hl : lv_has ls 6 [(0, .ref (α 0)), (1, .int i), (2, .int rt), (3, .int dr), (4, .ref (α 114))] := hl
  obtain ⟨w, RT, hw, hD⟩ := hD0
  refine lv_aload hx hb dL_build_0 (lv_at hl 4 rfl) ?_
  refine lv_iconst (v := 0) hx hb dL_build_2 (by decide) ?_
  refine lv_aload_n hx hb dL_build_3 rfl (lv_at hl 0 rfl) ?_
  refine lv_iload_n hx hb dL_build_4 rfl (lv_at hl 1 rfl) ?_
  refine lv_iload_n hx hb dL_build_5 rfl (lv_at hl 2 rfl) ?_
  refine lv_iload_n hx hb dL_build_6 rfl (lv_at hl 3 rfl) ?_
  refine dpc_Vi hF hK hN hE hZ (c_X5_build l hl9 D G α w R RT RS kp sv n F len i rt dr _ hα hw hD (gd_bz hg) (gd_mono hg) hn6 hl6 ) (cwV 3 hts gL_build_X5_build rfl rfl rfl (by decide +kernel) ⟨Nat.le_of_ble_eq_true rfl, Nat.le_of_ble_eq_true rfl⟩) (dp_recv hK hD.1 rfl) hS (fun q hq => Or.inl hq) [.int 0, .ref (α 114)] rfl rfl hl.1 (Nat.le_of_ble_eq_true rfl) dL_build_7 ⟨Nat.le_of_ble_eq_true rfl, Nat.le_of_ble_eq_true rfl⟩ (fun E ce q9 HX locs hX hzX hkX hS hce hcv hcl => ?_) (fun rH HN locs hp hzN hkN hS => ?_)
  · have hD0 := DW.all ⟨w, RT, hw, hD⟩ (fun k _ hk9 => hkX _ hk9)
    have hL := hL.kept (hkX _ hL.lt)
    rcases hX with ⟨rfl, h9⟩ | ⟨rfl, h9⟩ | ⟨rfl, h9⟩
    · refine vx_catch (name := xI) hown (tableOf []) ⟨0, 12, 15, 13⟩ (tableOf [(0, 12, 19, 15), (0, 12, 23, 17)]) (htab.trans rfl) (fun z hz => by cases hz) (by decide) (by decide) (hts (.classLink RL 13 "java/lang/IndexOutOfBoundsException") (List.mem_of_getElem? (i := 1) rfl)) (va_Nw.use rfl hE.1.2.2.2.2.1) hce hcv hcl ?_
      refine lv_astore (lv' := [(5, .ref q9), (0, .ref (α 0)), (1, .int i), (2, .int rt), (3, .int dr), (4, .ref (α 114))]) hx hb dL_build_15 hl (by decide) rfl (fun ls hl => ?_)
      refine lv_iconst (v := 1) hx hb dL_build_17 (by decide) ?_
      exact W.iret hx hb hr (fun t ht hW => ⟨⟨1, HX, rfl, ⟨h9, Or.inr ⟨by rw [h9]; decide, hD0, hL⟩⟩, ht⟩, hS.F ht⟩) hS.2.2 dL_build_18
    · refine vx_catch (name := xA) hown (tableOf [(0, 12, 15, 13)]) ⟨0, 12, 19, 15⟩ (tableOf [(0, 12, 23, 17)]) (htab.trans rfl) (fun z hz => by obtain rfl := List.mem_singleton.mp hz; exact Or.inr ⟨by decide, xI, (hts (.classLink RL 13 "java/lang/IndexOutOfBoundsException") (List.mem_of_getElem? (i := 1) rfl)), hC.1⟩) (by decide) (by decide) (hts (.classLink RL 15 "java/lang/IllegalArgumentException") (List.mem_of_getElem? (i := 2) rfl)) (va_Nw.use rfl hE.1.2.2.2.2.2) hce hcv hcl ?_
      refine lv_astore (lv' := [(5, .ref q9), (0, .ref (α 0)), (1, .int i), (2, .int rt), (3, .int dr), (4, .ref (α 114))]) hx hb dL_build_19 hl (by decide) rfl (fun ls hl => ?_)
      refine lv_iconst (v := 2) hx hb dL_build_21 (by decide) ?_
      exact W.iret hx hb hr (fun t ht hW => ⟨⟨2, HX, rfl, ⟨h9, Or.inr ⟨by rw [h9]; decide, hD0, hL⟩⟩, ht⟩, hS.F ht⟩) hS.2.2 dL_build_22
    · refine vx_catch (name := xS) hown (tableOf [(0, 12, 15, 13), (0, 12, 19, 15)]) ⟨0, 12, 23, 17⟩ (tableOf []) (htab.trans rfl) (fun z hz => by rcases List.mem_cons.mp hz with rfl | hz; exact Or.inr ⟨by decide, xI, (hts (.classLink RL 13 "java/lang/IndexOutOfBoundsException") (List.mem_of_getElem? (i := 1) rfl)), hC.2.1⟩; obtain rfl := List.mem_singleton.mp hz; exact Or.inr ⟨by decide, xA, (hts (.classLink RL 15 "java/lang/IllegalArgumentException") (List.mem_of_getElem? (i := 2) rfl)), hC.2.2⟩) (by decide) (by decide) (hts (.classLink RL 17 "java/lang/IllegalStateException") (List.mem_of_getElem? (i := 3) rfl)) (va_Nw.use rfl hE.1.2.2.2.1) hce hcv hcl ?_
      refine lv_astore (lv' := [(5, .ref q9), (0, .ref (α 0)), (1, .int i), (2, .int rt), (3, .int dr), (4, .ref (α 114))]) hx hb dL_build_23 hl (by decide) rfl (fun ls hl => ?_)
      refine lv_iconst (v := 3) hx hb dL_build_25 (by decide) ?_
      exact W.iret hx hb hr (fun t ht hW => ⟨⟨3, HX, rfl, ⟨h9, Or.inr ⟨by rw [h9]; decide, hD0, hL⟩⟩, ht⟩, hS.F ht⟩) hS.2.2 dL_build_26
  · obtain ⟨h9, rfl, hD⟩ := hp
    have hL := hL.kept (hkN _ hL.lt (A5_114 hα))
    refine lv_i2l hx hb dL_build_10 rfl ?_
    refine dp_last (A := AL α) hx hb hK hL (Or.inr rfl) hS 4 rfl 0 rfl (by decide) (by decide) dL_build_11 (fun H1 locs hL hzH1 hkH1 hS => ?_)
    have hD := DW.all hD (fun k hk9 _ => hkH1 _ (a114 hα hk9))
    refine lv_goto (tgt := 27) hx hb dL_build_12 (by decide) ?_
    refine lv_iconst (v := 0) hx hb dL_build_27 (by decide) ?_
    exact W.iret hx hb hr (fun t ht hW => ⟨⟨0, H1, rfl, ⟨h9, Or.inl ⟨h9, hD, _, pk_uLs, hL⟩⟩, ht⟩, hS.F ht⟩) hS.2.2 dL_build_28

set_option maxHeartbeats 600000 in
set_option maxRecDepth 100000 in
theorem c_L_speed (l : Launch) (hl9 : l.stackTraces = false) (D : va_G) (G : Nat → ClassId) (α : Nat → Nat) (R RS : Nat → Int32) (kp : Int32) (sv : Nat → Nat → Int32) (n : Nat) (F : Nat → Int32) (len : Nat) (oo : Nat → Int64) (i v : Int32) (H : Heap) (hα : inj 115 α) (hD0 : DW D G α R RS kp sv n F len H) (hL : va_at D vwCl (α 114, .inl (G 4, 1, .inr (.inl oo))) H) (hg : gd R) (hn6 : n ≤ 6) (hl6 : len ≤ 60) : Met l yL_speed wsL_speed ({ frames := 8, cells := 2, slots := 12, locals := 135 } : Room) (va_Pc [.ref (α 0), .int i, .int v, .ref (α 114)] (CL D G (AL α) H)) (QI (AL α) (fun r h => cSpeed i v = r ∧ ((cSpeed i v = 0 ∧ DW D G α (upd R (10 + 10 * ix i) v) RS kp (svs sv n R) (svn n) F len h ∧ ∃ o2 : Nat → Int64, o2 0 = Int32.toInt64 (R (10 + 10 * ix i)) ∧ va_at D vwCl (α 114, .inl (G 4, 1, .inr (.inl o2))) h) ∨ (¬ cSpeed i v = 0 ∧ DW D G α R RS kp sv n F len h ∧ va_at D vwCl (α 114, .inl (G 4, 1, .inr (.inl oo))) h)))) 2 12 (AL α) := by
  refine dp_ofWH (cc := cL_speed) (maxL := 5) (ret := (some .int)) (by decide) rfl ?_
  intro p e s m args below meth c s₁ B0 hml hv
  obtain ⟨rfl, ⟨rfl, hK, hN⟩, hE, hZ, hC⟩ := hv
  have hx := B0.exec
  have hb := B0.bytes
  have hr := B0.returns
  have hts := atoms_spec (ws := wsL_speed) B0.pre
  have htab := vx_table (x := yL_speed) B0 (hts (.codeWith yL_speed cL_speed 5 (some .int) [(0, 10, 13, 13), (0, 10, 17, 15)]) (List.mem_of_getElem? (i := 0) rfl))
  have hown : s.vm.findClass RL = some m.cls := findClass_of_methodNamed B0.named
  have hlocks := B0.notSynchronized
  have hF : CallFix p m c cL_speed 5 s ([.ref (α 0), .int i, .int v, .ref (α 114)] : List Value).toArray wsL_speed RL := ⟨hx, hb, hml, hown, hts⟩
  have hS : va_S (AL α) s.heap s.heap [] := va_S.rf
  have hl := lv_entry ([.ref (α 0), .int i, .int v, .ref (α 114)]) (n := 5) (Nat.le_of_ble_eq_true rfl)
  rw [lg_entry_eq]
  generalize (lg_sl ([.ref (α 0), .int i, .int v, .ref (α 114)]) ++ List.replicate (5 - (lg_sl ([.ref (α 0), .int i, .int v, .ref (α 114)])).length) Slot.unset).toArray = ls at hl ⊢
  have hl : lv_has ls 5 [(0, .ref (α 0)), (1, .int i), (2, .int v), (3, .ref (α 114))] := hl
  obtain ⟨w, RT, hw, hD⟩ := hD0
  refine lv_aload_n hx hb dL_speed_0 rfl (lv_at hl 3 rfl) ?_
  refine lv_iconst (v := 0) hx hb dL_speed_1 (by decide) ?_
  refine lv_aload_n hx hb dL_speed_2 rfl (lv_at hl 0 rfl) ?_
  refine lv_iload_n hx hb dL_speed_3 rfl (lv_at hl 1 rfl) ?_
  refine lv_iload_n hx hb dL_speed_4 rfl (lv_at hl 2 rfl) ?_
  refine dpc_Vi hF hK hN hE hZ (c_X5_speed l hl9 D G α w R RT RS kp sv n F len i v _ hα hw hD (gd_bz hg) (gd_mono hg) hn6 hl6 ) (cwV 2 hts gL_speed_X5_speed rfl rfl rfl (by decide +kernel) ⟨Nat.le_of_ble_eq_true rfl, Nat.le_of_ble_eq_true rfl⟩) (dp_recv hK hD.1 rfl) hS (fun q hq => Or.inl hq) [.int 0, .ref (α 114)] rfl rfl hl.1 (Nat.le_of_ble_eq_true rfl) dL_speed_5 ⟨Nat.le_of_ble_eq_true rfl, Nat.le_of_ble_eq_true rfl⟩ (fun E ce q9 HX locs hX hzX hkX hS hce hcv hcl => ?_) (fun rH HN locs hp hzN hkN hS => ?_)
  · have hD0 := DW.all ⟨w, RT, hw, hD⟩ (fun k _ hk9 => hkX _ hk9)
    have hL := hL.kept (hkX _ hL.lt)
    rcases hX with ⟨rfl, h9⟩ | ⟨rfl, h9⟩
    · refine vx_catch (name := xI) hown (tableOf []) ⟨0, 10, 13, 13⟩ (tableOf [(0, 10, 17, 15)]) (htab.trans rfl) (fun z hz => by cases hz) (by decide) (by decide) (hts (.classLink RL 13 "java/lang/IndexOutOfBoundsException") (List.mem_of_getElem? (i := 1) rfl)) (va_Nw.use rfl hE.1.2.2.2.2.1) hce hcv hcl ?_
      refine lv_astore (lv' := [(4, .ref q9), (0, .ref (α 0)), (1, .int i), (2, .int v), (3, .ref (α 114))]) hx hb dL_speed_13 hl (by decide) rfl (fun ls hl => ?_)
      refine lv_iconst (v := 1) hx hb dL_speed_15 (by decide) ?_
      exact W.iret hx hb hr (fun t ht hW => ⟨⟨1, HX, rfl, ⟨h9, Or.inr ⟨by rw [h9]; decide, hD0, hL⟩⟩, ht⟩, hS.F ht⟩) hS.2.2 dL_speed_16
    · refine vx_catch (name := xA) hown (tableOf [(0, 10, 13, 13)]) ⟨0, 10, 17, 15⟩ (tableOf []) (htab.trans rfl) (fun z hz => by obtain rfl := List.mem_singleton.mp hz; exact Or.inr ⟨by decide, xI, (hts (.classLink RL 13 "java/lang/IndexOutOfBoundsException") (List.mem_of_getElem? (i := 1) rfl)), hC.1⟩) (by decide) (by decide) (hts (.classLink RL 15 "java/lang/IllegalArgumentException") (List.mem_of_getElem? (i := 2) rfl)) (va_Nw.use rfl hE.1.2.2.2.2.2) hce hcv hcl ?_
      refine lv_astore (lv' := [(4, .ref q9), (0, .ref (α 0)), (1, .int i), (2, .int v), (3, .ref (α 114))]) hx hb dL_speed_17 hl (by decide) rfl (fun ls hl => ?_)
      refine lv_iconst (v := 2) hx hb dL_speed_19 (by decide) ?_
      exact W.iret hx hb hr (fun t ht hW => ⟨⟨2, HX, rfl, ⟨h9, Or.inr ⟨by rw [h9]; decide, hD0, hL⟩⟩, ht⟩, hS.F ht⟩) hS.2.2 dL_speed_20
  · obtain ⟨h9, rfl, hD⟩ := hp
    have hL := hL.kept (hkN _ hL.lt (A5_114 hα))
    refine lv_i2l hx hb dL_speed_8 rfl ?_
    refine dp_last (A := AL α) hx hb hK hL (Or.inr rfl) hS 4 rfl 0 rfl (by decide) (by decide) dL_speed_9 (fun H1 locs hL hzH1 hkH1 hS => ?_)
    have hD := DW.all hD (fun k hk9 _ => hkH1 _ (a114 hα hk9))
    refine lv_goto (tgt := 21) hx hb dL_speed_10 (by decide) ?_
    refine lv_iconst (v := 0) hx hb dL_speed_21 (by decide) ?_
    exact W.iret hx hb hr (fun t ht hW => ⟨⟨0, H1, rfl, ⟨h9, Or.inl ⟨h9, hD, _, pk_uLs, hL⟩⟩, ht⟩, hS.F ht⟩) hS.2.2 dL_speed_22

set_option maxHeartbeats 600000 in
set_option maxRecDepth 100000 in
theorem c_L_run (l : Launch) (hl9 : l.stackTraces = false) (D : va_G) (G : Nat → ClassId) (α : Nat → Nat) (R RS : Nat → Int32) (kp : Int32) (sv : Nat → Nat → Int32) (n : Nat) (F : Nat → Int32) (len : Nat) (oo : Nat → Int64) (i : Int32) (H : Heap) (hα : inj 115 α) (hD0 : DW D G α R RS kp sv n F len H) (hL : va_at D vwCl (α 114, .inl (G 4, 1, .inr (.inl oo))) H) (hg : gd R) (hn6 : n ≤ 6) (hl6 : len ≤ 60) : Met l yL_run wsL_run ({ frames := 8, cells := 2, slots := 12, locals := 131 } : Room) (va_Pc [.ref (α 0), .int i, .ref (α 114)] (CL D G (AL α) H)) (QI (AL α) (fun r h => cRun R i = r ∧ ((cRun R i = 0 ∧ DW D G α (rst (upd R (11 + 10 * ix i) 1) (ix i)) RS kp (svs sv n R) (svn n) F len h ∧ ∃ o2 : Nat → Int64, o2 0 = Int32.toInt64 (osum (rst (upd R (11 + 10 * ix i) 1) (ix i)) 11 3) ∧ va_at D vwCl (α 114, .inl (G 4, 1, .inr (.inl o2))) h) ∨ (¬ cRun R i = 0 ∧ DW D G α R RS kp sv n F len h ∧ va_at D vwCl (α 114, .inl (G 4, 1, .inr (.inl oo))) h)))) 2 12 (AL α) := by
  refine dp_ofWH (cc := cL_run) (maxL := 4) (ret := (some .int)) (by decide) rfl ?_
  intro p e s m args below meth c s₁ B0 hml hv
  obtain ⟨rfl, ⟨rfl, hK, hN⟩, hE, hZ, hC⟩ := hv
  have hx := B0.exec
  have hb := B0.bytes
  have hr := B0.returns
  have hts := atoms_spec (ws := wsL_run) B0.pre
  have htab := vx_table (x := yL_run) B0 (hts (.codeWith yL_run cL_run 4 (some .int) [(0, 9, 12, 13), (0, 9, 15, 17)]) (List.mem_of_getElem? (i := 0) rfl))
  have hown : s.vm.findClass RL = some m.cls := findClass_of_methodNamed B0.named
  have hlocks := B0.notSynchronized
  have hF : CallFix p m c cL_run 4 s ([.ref (α 0), .int i, .ref (α 114)] : List Value).toArray wsL_run RL := ⟨hx, hb, hml, hown, hts⟩
  have hS : va_S (AL α) s.heap s.heap [] := va_S.rf
  have hl := lv_entry ([.ref (α 0), .int i, .ref (α 114)]) (n := 4) (Nat.le_of_ble_eq_true rfl)
  rw [lg_entry_eq]
  generalize (lg_sl ([.ref (α 0), .int i, .ref (α 114)]) ++ List.replicate (4 - (lg_sl ([.ref (α 0), .int i, .ref (α 114)])).length) Slot.unset).toArray = ls at hl ⊢
  have hl : lv_has ls 4 [(0, .ref (α 0)), (1, .int i), (2, .ref (α 114))] := hl
  obtain ⟨w, RT, hw, hD⟩ := hD0
  refine lv_aload_n hx hb dL_run_0 rfl (lv_at hl 2 rfl) ?_
  refine lv_iconst (v := 0) hx hb dL_run_1 (by decide) ?_
  refine lv_aload_n hx hb dL_run_2 rfl (lv_at hl 0 rfl) ?_
  refine lv_iload_n hx hb dL_run_3 rfl (lv_at hl 1 rfl) ?_
  refine dpc_Vi hF hK hN hE hZ (c_X5_run l hl9 D G α w R RT RS kp sv n F len i _ hα hw hD (gd_bz hg) (gd_mono hg) hn6 hl6 ) (cwV 1 hts gL_run_X5_run rfl rfl rfl (by decide +kernel) ⟨Nat.le_of_ble_eq_true rfl, Nat.le_of_ble_eq_true rfl⟩) (dp_recv hK hD.1 rfl) hS (fun q hq => Or.inl hq) [.int 0, .ref (α 114)] rfl rfl hl.1 (Nat.le_of_ble_eq_true rfl) dL_run_4 ⟨Nat.le_of_ble_eq_true rfl, Nat.le_of_ble_eq_true rfl⟩ (fun E ce q9 HX locs hX hzX hkX hS hce hcv hcl => ?_) (fun rH HN locs hp hzN hkN hS => ?_)
  · have hD0 := DW.all ⟨w, RT, hw, hD⟩ (fun k _ hk9 => hkX _ hk9)
    have hL := hL.kept (hkX _ hL.lt)
    rcases hX with ⟨rfl, h9⟩ | ⟨rfl, h9⟩
    · refine vx_catch (name := xI) hown (tableOf []) ⟨0, 9, 12, 13⟩ (tableOf [(0, 9, 15, 17)]) (htab.trans rfl) (fun z hz => by cases hz) (by decide) (by decide) (hts (.classLink RL 13 "java/lang/IndexOutOfBoundsException") (List.mem_of_getElem? (i := 1) rfl)) (va_Nw.use rfl hE.1.2.2.2.2.1) hce hcv hcl ?_
      refine lv_astore_n (lv' := [(3, .ref q9), (0, .ref (α 0)), (1, .int i), (2, .ref (α 114))]) hx hb dL_run_12 rfl hl (by decide) rfl (fun ls hl => ?_)
      refine lv_iconst (v := 1) hx hb dL_run_13 (by decide) ?_
      exact W.iret hx hb hr (fun t ht hW => ⟨⟨1, HX, rfl, ⟨h9, Or.inr ⟨by rw [h9]; decide, hD0, hL⟩⟩, ht⟩, hS.F ht⟩) hS.2.2 dL_run_14
    · refine vx_catch (name := xS) hown (tableOf [(0, 9, 12, 13)]) ⟨0, 9, 15, 17⟩ (tableOf []) (htab.trans rfl) (fun z hz => by obtain rfl := List.mem_singleton.mp hz; exact Or.inr ⟨by decide, xI, (hts (.classLink RL 13 "java/lang/IndexOutOfBoundsException") (List.mem_of_getElem? (i := 1) rfl)), hC.2.1⟩) (by decide) (by decide) (hts (.classLink RL 17 "java/lang/IllegalStateException") (List.mem_of_getElem? (i := 2) rfl)) (va_Nw.use rfl hE.1.2.2.2.1) hce hcv hcl ?_
      refine lv_astore_n (lv' := [(3, .ref q9), (0, .ref (α 0)), (1, .int i), (2, .ref (α 114))]) hx hb dL_run_15 rfl hl (by decide) rfl (fun ls hl => ?_)
      refine lv_iconst (v := 2) hx hb dL_run_16 (by decide) ?_
      exact W.iret hx hb hr (fun t ht hW => ⟨⟨2, HX, rfl, ⟨h9, Or.inr ⟨by rw [h9]; decide, hD0, hL⟩⟩, ht⟩, hS.F ht⟩) hS.2.2 dL_run_17
  · obtain ⟨h9, rfl, hD⟩ := hp
    have hL := hL.kept (hkN _ hL.lt (A5_114 hα))
    refine lv_i2l hx hb dL_run_7 rfl ?_
    refine dp_last (A := AL α) hx hb hK hL (Or.inr rfl) hS 4 rfl 0 rfl (by decide) (by decide) dL_run_8 (fun H1 locs hL hzH1 hkH1 hS => ?_)
    have hD := DW.all hD (fun k hk9 _ => hkH1 _ (a114 hα hk9))
    refine lv_goto (tgt := 18) hx hb dL_run_9 (by decide) ?_
    refine lv_iconst (v := 0) hx hb dL_run_18 (by decide) ?_
    exact W.iret hx hb hr (fun t ht hW => ⟨⟨0, H1, rfl, ⟨h9, Or.inl ⟨h9, hD, _, pk_uLs, hL⟩⟩, ht⟩, hS.F ht⟩) hS.2.2 dL_run_19

set_option maxHeartbeats 600000 in
set_option maxRecDepth 100000 in
theorem c_L_halt (l : Launch) (hl9 : l.stackTraces = false) (D : va_G) (G : Nat → ClassId) (α : Nat → Nat) (R RS : Nat → Int32) (kp : Int32) (sv : Nat → Nat → Int32) (n : Nat) (F : Nat → Int32) (len : Nat) (oo : Nat → Int64) (i : Int32) (H : Heap) (hα : inj 115 α) (hD0 : DW D G α R RS kp sv n F len H) (hL : va_at D vwCl (α 114, .inl (G 4, 1, .inr (.inl oo))) H) (hg : gd R) (hn6 : n ≤ 6) (hl6 : len ≤ 60) : Met l yL_halt wsL_halt ({ frames := 8, cells := 2, slots := 12, locals := 131 } : Room) (va_Pc [.ref (α 0), .int i, .ref (α 114)] (CL D G (AL α) H)) (QI (AL α) (fun r h => cHalt R i = r ∧ ((cHalt R i = 0 ∧ DW D G α (rst (upd R (11 + 10 * ix i) 0) (ix i)) RS kp (svs sv n R) (svn n) F len h ∧ ∃ o2 : Nat → Int64, o2 0 = Int32.toInt64 (osum (rst (upd R (11 + 10 * ix i) 0) (ix i)) 11 3) ∧ va_at D vwCl (α 114, .inl (G 4, 1, .inr (.inl o2))) h) ∨ (¬ cHalt R i = 0 ∧ DW D G α R RS kp sv n F len h ∧ va_at D vwCl (α 114, .inl (G 4, 1, .inr (.inl oo))) h)))) 2 12 (AL α) := by
  refine dp_ofWH (cc := cL_halt) (maxL := 4) (ret := (some .int)) (by decide) rfl ?_
  intro p e s m args below meth c s₁ B0 hml hv
  obtain ⟨rfl, ⟨rfl, hK, hN⟩, hE, hZ, hC⟩ := hv
  have hx := B0.exec
  have hb := B0.bytes
  have hr := B0.returns
  have hts := atoms_spec (ws := wsL_halt) B0.pre
  have htab := vx_table (x := yL_halt) B0 (hts (.codeWith yL_halt cL_halt 4 (some .int) [(0, 9, 12, 13), (0, 9, 15, 17)]) (List.mem_of_getElem? (i := 0) rfl))
  have hown : s.vm.findClass RL = some m.cls := findClass_of_methodNamed B0.named
  have hlocks := B0.notSynchronized
  have hF : CallFix p m c cL_halt 4 s ([.ref (α 0), .int i, .ref (α 114)] : List Value).toArray wsL_halt RL := ⟨hx, hb, hml, hown, hts⟩
  have hS : va_S (AL α) s.heap s.heap [] := va_S.rf
  have hl := lv_entry ([.ref (α 0), .int i, .ref (α 114)]) (n := 4) (Nat.le_of_ble_eq_true rfl)
  rw [lg_entry_eq]
  generalize (lg_sl ([.ref (α 0), .int i, .ref (α 114)]) ++ List.replicate (4 - (lg_sl ([.ref (α 0), .int i, .ref (α 114)])).length) Slot.unset).toArray = ls at hl ⊢
  have hl : lv_has ls 4 [(0, .ref (α 0)), (1, .int i), (2, .ref (α 114))] := hl
  obtain ⟨w, RT, hw, hD⟩ := hD0
  refine lv_aload_n hx hb dL_halt_0 rfl (lv_at hl 2 rfl) ?_
  refine lv_iconst (v := 0) hx hb dL_halt_1 (by decide) ?_
  refine lv_aload_n hx hb dL_halt_2 rfl (lv_at hl 0 rfl) ?_
  refine lv_iload_n hx hb dL_halt_3 rfl (lv_at hl 1 rfl) ?_
  refine dpc_Vi hF hK hN hE hZ (c_X5_halt l hl9 D G α w R RT RS kp sv n F len i _ hα hw hD (gd_bz hg) (gd_mono hg) hn6 hl6 ) (cwV 1 hts gL_halt_X5_halt rfl rfl rfl (by decide +kernel) ⟨Nat.le_of_ble_eq_true rfl, Nat.le_of_ble_eq_true rfl⟩) (dp_recv hK hD.1 rfl) hS (fun q hq => Or.inl hq) [.int 0, .ref (α 114)] rfl rfl hl.1 (Nat.le_of_ble_eq_true rfl) dL_halt_4 ⟨Nat.le_of_ble_eq_true rfl, Nat.le_of_ble_eq_true rfl⟩ (fun E ce q9 HX locs hX hzX hkX hS hce hcv hcl => ?_) (fun rH HN locs hp hzN hkN hS => ?_)
  · have hD0 := DW.all ⟨w, RT, hw, hD⟩ (fun k _ hk9 => hkX _ hk9)
    have hL := hL.kept (hkX _ hL.lt)
    rcases hX with ⟨rfl, h9⟩ | ⟨rfl, h9⟩
    · refine vx_catch (name := xI) hown (tableOf []) ⟨0, 9, 12, 13⟩ (tableOf [(0, 9, 15, 17)]) (htab.trans rfl) (fun z hz => by cases hz) (by decide) (by decide) (hts (.classLink RL 13 "java/lang/IndexOutOfBoundsException") (List.mem_of_getElem? (i := 1) rfl)) (va_Nw.use rfl hE.1.2.2.2.2.1) hce hcv hcl ?_
      refine lv_astore_n (lv' := [(3, .ref q9), (0, .ref (α 0)), (1, .int i), (2, .ref (α 114))]) hx hb dL_halt_12 rfl hl (by decide) rfl (fun ls hl => ?_)
      refine lv_iconst (v := 1) hx hb dL_halt_13 (by decide) ?_
      exact W.iret hx hb hr (fun t ht hW => ⟨⟨1, HX, rfl, ⟨h9, Or.inr ⟨by rw [h9]; decide, hD0, hL⟩⟩, ht⟩, hS.F ht⟩) hS.2.2 dL_halt_14
    · refine vx_catch (name := xS) hown (tableOf [(0, 9, 12, 13)]) ⟨0, 9, 15, 17⟩ (tableOf []) (htab.trans rfl) (fun z hz => by obtain rfl := List.mem_singleton.mp hz; exact Or.inr ⟨by decide, xI, (hts (.classLink RL 13 "java/lang/IndexOutOfBoundsException") (List.mem_of_getElem? (i := 1) rfl)), hC.2.1⟩) (by decide) (by decide) (hts (.classLink RL 17 "java/lang/IllegalStateException") (List.mem_of_getElem? (i := 2) rfl)) (va_Nw.use rfl hE.1.2.2.2.1) hce hcv hcl ?_
      refine lv_astore_n (lv' := [(3, .ref q9), (0, .ref (α 0)), (1, .int i), (2, .ref (α 114))]) hx hb dL_halt_15 rfl hl (by decide) rfl (fun ls hl => ?_)
      refine lv_iconst (v := 2) hx hb dL_halt_16 (by decide) ?_
      exact W.iret hx hb hr (fun t ht hW => ⟨⟨2, HX, rfl, ⟨h9, Or.inr ⟨by rw [h9]; decide, hD0, hL⟩⟩, ht⟩, hS.F ht⟩) hS.2.2 dL_halt_17
  · obtain ⟨h9, rfl, hD⟩ := hp
    have hL := hL.kept (hkN _ hL.lt (A5_114 hα))
    refine lv_i2l hx hb dL_halt_7 rfl ?_
    refine dp_last (A := AL α) hx hb hK hL (Or.inr rfl) hS 4 rfl 0 rfl (by decide) (by decide) dL_halt_8 (fun H1 locs hL hzH1 hkH1 hS => ?_)
    have hD := DW.all hD (fun k hk9 _ => hkH1 _ (a114 hα hk9))
    refine lv_goto (tgt := 18) hx hb dL_halt_9 (by decide) ?_
    refine lv_iconst (v := 0) hx hb dL_halt_18 (by decide) ?_
    exact W.iret hx hb hr (fun t ht hW => ⟨⟨0, H1, rfl, ⟨h9, Or.inl ⟨h9, hD, _, pk_uLs, hL⟩⟩, ht⟩, hS.F ht⟩) hS.2.2 dL_halt_19

set_option maxHeartbeats 600000 in
set_option maxRecDepth 100000 in
theorem c_L_close (l : Launch) (hl9 : l.stackTraces = false) (D : va_G) (G : Nat → ClassId) (α : Nat → Nat) (R RS : Nat → Int32) (kp : Int32) (sv : Nat → Nat → Int32) (n : Nat) (F : Nat → Int32) (len : Nat) (oo : Nat → Int64) (i : Int32) (H : Heap) (hα : inj 115 α) (hD0 : DW D G α R RS kp sv n F len H) (hL : va_at D vwCl (α 114, .inl (G 4, 1, .inr (.inl oo))) H) (hg : gd R) (hn6 : n ≤ 6) (hl6 : len ≤ 60) : Met l yL_close wsL_close ({ frames := 8, cells := 2, slots := 12, locals := 131 } : Room) (va_Pc [.ref (α 0), .int i, .ref (α 114)] (CL D G (AL α) H)) (QI (AL α) (fun r h => cClose R i = r ∧ ((cClose R i = 0 ∧ DW D G α (rst (upd R (12 + 10 * ix i) 1) (ix i)) RS kp (svs sv n R) (svn n) F len h ∧ ∃ o2 : Nat → Int64, o2 0 = Int32.toInt64 (fq (rst (upd R (12 + 10 * ix i) 1) (ix i))) ∧ va_at D vwCl (α 114, .inl (G 4, 1, .inr (.inl o2))) h) ∨ (¬ cClose R i = 0 ∧ DW D G α R RS kp sv n F len h ∧ va_at D vwCl (α 114, .inl (G 4, 1, .inr (.inl oo))) h)))) 2 12 (AL α) := by
  refine dp_ofWH (cc := cL_close) (maxL := 4) (ret := (some .int)) (by decide) rfl ?_
  intro p e s m args below meth c s₁ B0 hml hv
  obtain ⟨rfl, ⟨rfl, hK, hN⟩, hE, hZ, hC⟩ := hv
  have hx := B0.exec
  have hb := B0.bytes
  have hr := B0.returns
  have hts := atoms_spec (ws := wsL_close) B0.pre
  have htab := vx_table (x := yL_close) B0 (hts (.codeWith yL_close cL_close 4 (some .int) [(0, 9, 12, 13), (0, 9, 15, 17)]) (List.mem_of_getElem? (i := 0) rfl))
  have hown : s.vm.findClass RL = some m.cls := findClass_of_methodNamed B0.named
  have hlocks := B0.notSynchronized
  have hF : CallFix p m c cL_close 4 s ([.ref (α 0), .int i, .ref (α 114)] : List Value).toArray wsL_close RL := ⟨hx, hb, hml, hown, hts⟩
  have hS : va_S (AL α) s.heap s.heap [] := va_S.rf
  have hl := lv_entry ([.ref (α 0), .int i, .ref (α 114)]) (n := 4) (Nat.le_of_ble_eq_true rfl)
  rw [lg_entry_eq]
  generalize (lg_sl ([.ref (α 0), .int i, .ref (α 114)]) ++ List.replicate (4 - (lg_sl ([.ref (α 0), .int i, .ref (α 114)])).length) Slot.unset).toArray = ls at hl ⊢
  have hl : lv_has ls 4 [(0, .ref (α 0)), (1, .int i), (2, .ref (α 114))] := hl
  obtain ⟨w, RT, hw, hD⟩ := hD0
  refine lv_aload_n hx hb dL_close_0 rfl (lv_at hl 2 rfl) ?_
  refine lv_iconst (v := 0) hx hb dL_close_1 (by decide) ?_
  refine lv_aload_n hx hb dL_close_2 rfl (lv_at hl 0 rfl) ?_
  refine lv_iload_n hx hb dL_close_3 rfl (lv_at hl 1 rfl) ?_
  refine dpc_Vi hF hK hN hE hZ (c_X5_close l hl9 D G α w R RT RS kp sv n F len i _ hα hw hD (gd_bz hg) (gd_mono hg) hn6 hl6 (mono_sw hg (Or.inr rfl))) (cwV 1 hts gL_close_X5_close rfl rfl rfl (by decide +kernel) ⟨Nat.le_of_ble_eq_true rfl, Nat.le_of_ble_eq_true rfl⟩) (dp_recv hK hD.1 rfl) hS (fun q hq => Or.inl hq) [.int 0, .ref (α 114)] rfl rfl hl.1 (Nat.le_of_ble_eq_true rfl) dL_close_4 ⟨Nat.le_of_ble_eq_true rfl, Nat.le_of_ble_eq_true rfl⟩ (fun E ce q9 HX locs hX hzX hkX hS hce hcv hcl => ?_) (fun rH HN locs hp hzN hkN hS => ?_)
  · have hD0 := DW.all ⟨w, RT, hw, hD⟩ (fun k _ hk9 => hkX _ hk9)
    have hL := hL.kept (hkX _ hL.lt)
    rcases hX with ⟨rfl, h9⟩ | ⟨rfl, h9⟩
    · refine vx_catch (name := xI) hown (tableOf []) ⟨0, 9, 12, 13⟩ (tableOf [(0, 9, 15, 17)]) (htab.trans rfl) (fun z hz => by cases hz) (by decide) (by decide) (hts (.classLink RL 13 "java/lang/IndexOutOfBoundsException") (List.mem_of_getElem? (i := 1) rfl)) (va_Nw.use rfl hE.1.2.2.2.2.1) hce hcv hcl ?_
      refine lv_astore_n (lv' := [(3, .ref q9), (0, .ref (α 0)), (1, .int i), (2, .ref (α 114))]) hx hb dL_close_12 rfl hl (by decide) rfl (fun ls hl => ?_)
      refine lv_iconst (v := 1) hx hb dL_close_13 (by decide) ?_
      exact W.iret hx hb hr (fun t ht hW => ⟨⟨1, HX, rfl, ⟨h9, Or.inr ⟨by rw [h9]; decide, hD0, hL⟩⟩, ht⟩, hS.F ht⟩) hS.2.2 dL_close_14
    · refine vx_catch (name := xS) hown (tableOf [(0, 9, 12, 13)]) ⟨0, 9, 15, 17⟩ (tableOf []) (htab.trans rfl) (fun z hz => by obtain rfl := List.mem_singleton.mp hz; exact Or.inr ⟨by decide, xI, (hts (.classLink RL 13 "java/lang/IndexOutOfBoundsException") (List.mem_of_getElem? (i := 1) rfl)), hC.2.1⟩) (by decide) (by decide) (hts (.classLink RL 17 "java/lang/IllegalStateException") (List.mem_of_getElem? (i := 2) rfl)) (va_Nw.use rfl hE.1.2.2.2.1) hce hcv hcl ?_
      refine lv_astore_n (lv' := [(3, .ref q9), (0, .ref (α 0)), (1, .int i), (2, .ref (α 114))]) hx hb dL_close_15 rfl hl (by decide) rfl (fun ls hl => ?_)
      refine lv_iconst (v := 2) hx hb dL_close_16 (by decide) ?_
      exact W.iret hx hb hr (fun t ht hW => ⟨⟨2, HX, rfl, ⟨h9, Or.inr ⟨by rw [h9]; decide, hD0, hL⟩⟩, ht⟩, hS.F ht⟩) hS.2.2 dL_close_17
  · obtain ⟨h9, rfl, hD⟩ := hp
    have hL := hL.kept (hkN _ hL.lt (A5_114 hα))
    refine lv_i2l hx hb dL_close_7 rfl ?_
    refine dp_last (A := AL α) hx hb hK hL (Or.inr rfl) hS 4 rfl 0 rfl (by decide) (by decide) dL_close_8 (fun H1 locs hL hzH1 hkH1 hS => ?_)
    have hD := DW.all hD (fun k hk9 _ => hkH1 _ (a114 hα hk9))
    refine lv_goto (tgt := 18) hx hb dL_close_9 (by decide) ?_
    refine lv_iconst (v := 0) hx hb dL_close_18 (by decide) ?_
    exact W.iret hx hb hr (fun t ht hW => ⟨⟨0, H1, rfl, ⟨h9, Or.inl ⟨h9, hD, _, pk_uLs, hL⟩⟩, ht⟩, hS.F ht⟩) hS.2.2 dL_close_19

set_option maxHeartbeats 600000 in
set_option maxRecDepth 100000 in
theorem c_L_open (l : Launch) (hl9 : l.stackTraces = false) (D : va_G) (G : Nat → ClassId) (α : Nat → Nat) (R RS : Nat → Int32) (kp : Int32) (sv : Nat → Nat → Int32) (n : Nat) (F : Nat → Int32) (len : Nat) (oo : Nat → Int64) (i : Int32) (H : Heap) (hα : inj 115 α) (hD0 : DW D G α R RS kp sv n F len H) (hL : va_at D vwCl (α 114, .inl (G 4, 1, .inr (.inl oo))) H) (hg : gd R) (hn6 : n ≤ 6) (hl6 : len ≤ 60) : Met l yL_open wsL_open ({ frames := 8, cells := 2, slots := 12, locals := 131 } : Room) (va_Pc [.ref (α 0), .int i, .ref (α 114)] (CL D G (AL α) H)) (QI (AL α) (fun r h => cOpen R i = r ∧ ((cOpen R i = 0 ∧ DW D G α (rst (upd R (12 + 10 * ix i) 0) (ix i)) RS kp (svs sv n R) (svn n) F len h ∧ ∃ o2 : Nat → Int64, o2 0 = Int32.toInt64 (fq (rst (upd R (12 + 10 * ix i) 0) (ix i))) ∧ va_at D vwCl (α 114, .inl (G 4, 1, .inr (.inl o2))) h) ∨ (¬ cOpen R i = 0 ∧ DW D G α R RS kp sv n F len h ∧ va_at D vwCl (α 114, .inl (G 4, 1, .inr (.inl oo))) h)))) 2 12 (AL α) := by
  refine dp_ofWH (cc := cL_open) (maxL := 4) (ret := (some .int)) (by decide) rfl ?_
  intro p e s m args below meth c s₁ B0 hml hv
  obtain ⟨rfl, ⟨rfl, hK, hN⟩, hE, hZ, hC⟩ := hv
  have hx := B0.exec
  have hb := B0.bytes
  have hr := B0.returns
  have hts := atoms_spec (ws := wsL_open) B0.pre
  have htab := vx_table (x := yL_open) B0 (hts (.codeWith yL_open cL_open 4 (some .int) [(0, 9, 12, 13), (0, 9, 15, 17)]) (List.mem_of_getElem? (i := 0) rfl))
  have hown : s.vm.findClass RL = some m.cls := findClass_of_methodNamed B0.named
  have hlocks := B0.notSynchronized
  have hF : CallFix p m c cL_open 4 s ([.ref (α 0), .int i, .ref (α 114)] : List Value).toArray wsL_open RL := ⟨hx, hb, hml, hown, hts⟩
  have hS : va_S (AL α) s.heap s.heap [] := va_S.rf
  have hl := lv_entry ([.ref (α 0), .int i, .ref (α 114)]) (n := 4) (Nat.le_of_ble_eq_true rfl)
  rw [lg_entry_eq]
  generalize (lg_sl ([.ref (α 0), .int i, .ref (α 114)]) ++ List.replicate (4 - (lg_sl ([.ref (α 0), .int i, .ref (α 114)])).length) Slot.unset).toArray = ls at hl ⊢
  have hl : lv_has ls 4 [(0, .ref (α 0)), (1, .int i), (2, .ref (α 114))] := hl
  obtain ⟨w, RT, hw, hD⟩ := hD0
  refine lv_aload_n hx hb dL_open_0 rfl (lv_at hl 2 rfl) ?_
  refine lv_iconst (v := 0) hx hb dL_open_1 (by decide) ?_
  refine lv_aload_n hx hb dL_open_2 rfl (lv_at hl 0 rfl) ?_
  refine lv_iload_n hx hb dL_open_3 rfl (lv_at hl 1 rfl) ?_
  refine dpc_Vi hF hK hN hE hZ (c_X5_open l hl9 D G α w R RT RS kp sv n F len i _ hα hw hD (gd_bz hg) (gd_mono hg) hn6 hl6 (mono_sw hg (Or.inl rfl))) (cwV 1 hts gL_open_X5_open rfl rfl rfl (by decide +kernel) ⟨Nat.le_of_ble_eq_true rfl, Nat.le_of_ble_eq_true rfl⟩) (dp_recv hK hD.1 rfl) hS (fun q hq => Or.inl hq) [.int 0, .ref (α 114)] rfl rfl hl.1 (Nat.le_of_ble_eq_true rfl) dL_open_4 ⟨Nat.le_of_ble_eq_true rfl, Nat.le_of_ble_eq_true rfl⟩ (fun E ce q9 HX locs hX hzX hkX hS hce hcv hcl => ?_) (fun rH HN locs hp hzN hkN hS => ?_)
  · have hD0 := DW.all ⟨w, RT, hw, hD⟩ (fun k _ hk9 => hkX _ hk9)
    have hL := hL.kept (hkX _ hL.lt)
    rcases hX with ⟨rfl, h9⟩ | ⟨rfl, h9⟩
    · refine vx_catch (name := xI) hown (tableOf []) ⟨0, 9, 12, 13⟩ (tableOf [(0, 9, 15, 17)]) (htab.trans rfl) (fun z hz => by cases hz) (by decide) (by decide) (hts (.classLink RL 13 "java/lang/IndexOutOfBoundsException") (List.mem_of_getElem? (i := 1) rfl)) (va_Nw.use rfl hE.1.2.2.2.2.1) hce hcv hcl ?_
      refine lv_astore_n (lv' := [(3, .ref q9), (0, .ref (α 0)), (1, .int i), (2, .ref (α 114))]) hx hb dL_open_12 rfl hl (by decide) rfl (fun ls hl => ?_)
      refine lv_iconst (v := 1) hx hb dL_open_13 (by decide) ?_
      exact W.iret hx hb hr (fun t ht hW => ⟨⟨1, HX, rfl, ⟨h9, Or.inr ⟨by rw [h9]; decide, hD0, hL⟩⟩, ht⟩, hS.F ht⟩) hS.2.2 dL_open_14
    · refine vx_catch (name := xS) hown (tableOf [(0, 9, 12, 13)]) ⟨0, 9, 15, 17⟩ (tableOf []) (htab.trans rfl) (fun z hz => by obtain rfl := List.mem_singleton.mp hz; exact Or.inr ⟨by decide, xI, (hts (.classLink RL 13 "java/lang/IndexOutOfBoundsException") (List.mem_of_getElem? (i := 1) rfl)), hC.2.1⟩) (by decide) (by decide) (hts (.classLink RL 17 "java/lang/IllegalStateException") (List.mem_of_getElem? (i := 2) rfl)) (va_Nw.use rfl hE.1.2.2.2.1) hce hcv hcl ?_
      refine lv_astore_n (lv' := [(3, .ref q9), (0, .ref (α 0)), (1, .int i), (2, .ref (α 114))]) hx hb dL_open_15 rfl hl (by decide) rfl (fun ls hl => ?_)
      refine lv_iconst (v := 2) hx hb dL_open_16 (by decide) ?_
      exact W.iret hx hb hr (fun t ht hW => ⟨⟨2, HX, rfl, ⟨h9, Or.inr ⟨by rw [h9]; decide, hD0, hL⟩⟩, ht⟩, hS.F ht⟩) hS.2.2 dL_open_17
  · obtain ⟨h9, rfl, hD⟩ := hp
    have hL := hL.kept (hkN _ hL.lt (A5_114 hα))
    refine lv_i2l hx hb dL_open_7 rfl ?_
    refine dp_last (A := AL α) hx hb hK hL (Or.inr rfl) hS 4 rfl 0 rfl (by decide) (by decide) dL_open_8 (fun H1 locs hL hzH1 hkH1 hS => ?_)
    have hD := DW.all hD (fun k hk9 _ => hkH1 _ (a114 hα hk9))
    refine lv_goto (tgt := 18) hx hb dL_open_9 (by decide) ?_
    refine lv_iconst (v := 0) hx hb dL_open_18 (by decide) ?_
    exact W.iret hx hb hr (fun t ht hW => ⟨⟨0, H1, rfl, ⟨h9, Or.inl ⟨h9, hD, _, pk_uLs, hL⟩⟩, ht⟩, hS.F ht⟩) hS.2.2 dL_open_19

set_option maxHeartbeats 600000 in
set_option maxRecDepth 100000 in
theorem c_L_load (l : Launch) (hl9 : l.stackTraces = false) (D : va_G) (G : Nat → ClassId) (α : Nat → Nat) (R RS : Nat → Int32) (kp : Int32) (sv : Nat → Nat → Int32) (n : Nat) (F : Nat → Int32) (len : Nat) (oo : Nat → Int64) (i v : Int32) (H : Heap) (hα : inj 115 α) (hD0 : DW D G α R RS kp sv n F len H) (hL : va_at D vwCl (α 114, .inl (G 4, 1, .inr (.inl oo))) H) (hg : gd R) (hn6 : n ≤ 6) (hl6 : len ≤ 60) : Met l yL_load wsL_load ({ frames := 8, cells := 2, slots := 12, locals := 135 } : Room) (va_Pc [.ref (α 0), .int i, .int v, .ref (α 114)] (CL D G (AL α) H)) (QI (AL α) (fun r h => cLoad i v = r ∧ ((cLoad i v = 0 ∧ DW D G α (upd R (38 + 3 * ix i) v) RS kp (svs sv n R) (svn n) F len h ∧ ∃ o2 : Nat → Int64, o2 0 = Int32.toInt64 (R (38 + 3 * ix i)) ∧ va_at D vwCl (α 114, .inl (G 4, 1, .inr (.inl o2))) h) ∨ (¬ cLoad i v = 0 ∧ DW D G α R RS kp sv n F len h ∧ va_at D vwCl (α 114, .inl (G 4, 1, .inr (.inl oo))) h)))) 2 12 (AL α) := by
  refine dp_ofWH (cc := cL_load) (maxL := 5) (ret := (some .int)) (by decide) rfl ?_
  intro p e s m args below meth c s₁ B0 hml hv
  obtain ⟨rfl, ⟨rfl, hK, hN⟩, hE, hZ, hC⟩ := hv
  have hx := B0.exec
  have hb := B0.bytes
  have hr := B0.returns
  have hts := atoms_spec (ws := wsL_load) B0.pre
  have htab := vx_table (x := yL_load) B0 (hts (.codeWith yL_load cL_load 5 (some .int) [(0, 10, 13, 13), (0, 10, 17, 15)]) (List.mem_of_getElem? (i := 0) rfl))
  have hown : s.vm.findClass RL = some m.cls := findClass_of_methodNamed B0.named
  have hlocks := B0.notSynchronized
  have hF : CallFix p m c cL_load 5 s ([.ref (α 0), .int i, .int v, .ref (α 114)] : List Value).toArray wsL_load RL := ⟨hx, hb, hml, hown, hts⟩
  have hS : va_S (AL α) s.heap s.heap [] := va_S.rf
  have hl := lv_entry ([.ref (α 0), .int i, .int v, .ref (α 114)]) (n := 5) (Nat.le_of_ble_eq_true rfl)
  rw [lg_entry_eq]
  generalize (lg_sl ([.ref (α 0), .int i, .int v, .ref (α 114)]) ++ List.replicate (5 - (lg_sl ([.ref (α 0), .int i, .int v, .ref (α 114)])).length) Slot.unset).toArray = ls at hl ⊢
  have hl : lv_has ls 5 [(0, .ref (α 0)), (1, .int i), (2, .int v), (3, .ref (α 114))] := hl
  obtain ⟨w, RT, hw, hD⟩ := hD0
  refine lv_aload_n hx hb dL_load_0 rfl (lv_at hl 3 rfl) ?_
  refine lv_iconst (v := 0) hx hb dL_load_1 (by decide) ?_
  refine lv_aload_n hx hb dL_load_2 rfl (lv_at hl 0 rfl) ?_
  refine lv_iload_n hx hb dL_load_3 rfl (lv_at hl 1 rfl) ?_
  refine lv_iload_n hx hb dL_load_4 rfl (lv_at hl 2 rfl) ?_
  refine dpc_Vi hF hK hN hE hZ (c_X5_load l hl9 D G α w R RT RS kp sv n F len i v _ hα hw hD (gd_bz hg) (gd_mono hg) hn6 hl6 ) (cwV 2 hts gL_load_X5_load rfl rfl rfl (by decide +kernel) ⟨Nat.le_of_ble_eq_true rfl, Nat.le_of_ble_eq_true rfl⟩) (dp_recv hK hD.1 rfl) hS (fun q hq => Or.inl hq) [.int 0, .ref (α 114)] rfl rfl hl.1 (Nat.le_of_ble_eq_true rfl) dL_load_5 ⟨Nat.le_of_ble_eq_true rfl, Nat.le_of_ble_eq_true rfl⟩ (fun E ce q9 HX locs hX hzX hkX hS hce hcv hcl => ?_) (fun rH HN locs hp hzN hkN hS => ?_)
  · have hD0 := DW.all ⟨w, RT, hw, hD⟩ (fun k _ hk9 => hkX _ hk9)
    have hL := hL.kept (hkX _ hL.lt)
    rcases hX with ⟨rfl, h9⟩ | ⟨rfl, h9⟩
    · refine vx_catch (name := xI) hown (tableOf []) ⟨0, 10, 13, 13⟩ (tableOf [(0, 10, 17, 15)]) (htab.trans rfl) (fun z hz => by cases hz) (by decide) (by decide) (hts (.classLink RL 13 "java/lang/IndexOutOfBoundsException") (List.mem_of_getElem? (i := 1) rfl)) (va_Nw.use rfl hE.1.2.2.2.2.1) hce hcv hcl ?_
      refine lv_astore (lv' := [(4, .ref q9), (0, .ref (α 0)), (1, .int i), (2, .int v), (3, .ref (α 114))]) hx hb dL_load_13 hl (by decide) rfl (fun ls hl => ?_)
      refine lv_iconst (v := 1) hx hb dL_load_15 (by decide) ?_
      exact W.iret hx hb hr (fun t ht hW => ⟨⟨1, HX, rfl, ⟨h9, Or.inr ⟨by rw [h9]; decide, hD0, hL⟩⟩, ht⟩, hS.F ht⟩) hS.2.2 dL_load_16
    · refine vx_catch (name := xA) hown (tableOf [(0, 10, 13, 13)]) ⟨0, 10, 17, 15⟩ (tableOf []) (htab.trans rfl) (fun z hz => by obtain rfl := List.mem_singleton.mp hz; exact Or.inr ⟨by decide, xI, (hts (.classLink RL 13 "java/lang/IndexOutOfBoundsException") (List.mem_of_getElem? (i := 1) rfl)), hC.1⟩) (by decide) (by decide) (hts (.classLink RL 15 "java/lang/IllegalArgumentException") (List.mem_of_getElem? (i := 2) rfl)) (va_Nw.use rfl hE.1.2.2.2.2.2) hce hcv hcl ?_
      refine lv_astore (lv' := [(4, .ref q9), (0, .ref (α 0)), (1, .int i), (2, .int v), (3, .ref (α 114))]) hx hb dL_load_17 hl (by decide) rfl (fun ls hl => ?_)
      refine lv_iconst (v := 2) hx hb dL_load_19 (by decide) ?_
      exact W.iret hx hb hr (fun t ht hW => ⟨⟨2, HX, rfl, ⟨h9, Or.inr ⟨by rw [h9]; decide, hD0, hL⟩⟩, ht⟩, hS.F ht⟩) hS.2.2 dL_load_20
  · obtain ⟨h9, rfl, hD⟩ := hp
    have hL := hL.kept (hkN _ hL.lt (A5_114 hα))
    refine lv_i2l hx hb dL_load_8 rfl ?_
    refine dp_last (A := AL α) hx hb hK hL (Or.inr rfl) hS 4 rfl 0 rfl (by decide) (by decide) dL_load_9 (fun H1 locs hL hzH1 hkH1 hS => ?_)
    have hD := DW.all hD (fun k hk9 _ => hkH1 _ (a114 hα hk9))
    refine lv_goto (tgt := 21) hx hb dL_load_10 (by decide) ?_
    refine lv_iconst (v := 0) hx hb dL_load_21 (by decide) ?_
    exact W.iret hx hb hr (fun t ht hW => ⟨⟨0, H1, rfl, ⟨h9, Or.inl ⟨h9, hD, _, pk_uLs, hL⟩⟩, ht⟩, hS.F ht⟩) hS.2.2 dL_load_22

set_option maxHeartbeats 600000 in
set_option maxRecDepth 100000 in
theorem c_L_feeder (l : Launch) (hl9 : l.stackTraces = false) (D : va_G) (G : Nat → ClassId) (α : Nat → Nat) (R RS : Nat → Int32) (kp : Int32) (sv : Nat → Nat → Int32) (n : Nat) (F : Nat → Int32) (len : Nat) (oo : Nat → Int64) (i v : Int32) (H : Heap) (hα : inj 115 α) (hD0 : DW D G α R RS kp sv n F len H) (hL : va_at D vwCl (α 114, .inl (G 4, 1, .inr (.inl oo))) H) (hg : gd R) (hn6 : n ≤ 6) (hl6 : len ≤ 60) : Met l yL_feeder wsL_feeder ({ frames := 8, cells := 2, slots := 12, locals := 135 } : Room) (va_Pc [.ref (α 0), .int i, .int v, .ref (α 114)] (CL D G (AL α) H)) (QI (AL α) (fun r h => cFeed i v = r ∧ ((cFeed i v = 0 ∧ DW D G α (upd R (39 + 3 * ix i) v) RS kp (svs sv n R) (svn n) F len h ∧ ∃ o2 : Nat → Int64, o2 0 = Int32.toInt64 ((if R (39 + 3 * ix i) = 0 then 0 else 1)) ∧ va_at D vwCl (α 114, .inl (G 4, 1, .inr (.inl o2))) h) ∨ (¬ cFeed i v = 0 ∧ DW D G α R RS kp sv n F len h ∧ va_at D vwCl (α 114, .inl (G 4, 1, .inr (.inl oo))) h)))) 2 12 (AL α) := by
  refine dp_ofWH (cc := cL_feeder) (maxL := 5) (ret := (some .int)) (by decide) rfl ?_
  intro p e s m args below meth c s₁ B0 hml hv
  obtain ⟨rfl, ⟨rfl, hK, hN⟩, hE, hZ, hC⟩ := hv
  have hx := B0.exec
  have hb := B0.bytes
  have hr := B0.returns
  have hts := atoms_spec (ws := wsL_feeder) B0.pre
  have htab := vx_table (x := yL_feeder) B0 (hts (.codeWith yL_feeder cL_feeder 5 (some .int) [(0, 10, 13, 13), (0, 10, 17, 15)]) (List.mem_of_getElem? (i := 0) rfl))
  have hown : s.vm.findClass RL = some m.cls := findClass_of_methodNamed B0.named
  have hlocks := B0.notSynchronized
  have hF : CallFix p m c cL_feeder 5 s ([.ref (α 0), .int i, .int v, .ref (α 114)] : List Value).toArray wsL_feeder RL := ⟨hx, hb, hml, hown, hts⟩
  have hS : va_S (AL α) s.heap s.heap [] := va_S.rf
  have hl := lv_entry ([.ref (α 0), .int i, .int v, .ref (α 114)]) (n := 5) (Nat.le_of_ble_eq_true rfl)
  rw [lg_entry_eq]
  generalize (lg_sl ([.ref (α 0), .int i, .int v, .ref (α 114)]) ++ List.replicate (5 - (lg_sl ([.ref (α 0), .int i, .int v, .ref (α 114)])).length) Slot.unset).toArray = ls at hl ⊢
  have hl : lv_has ls 5 [(0, .ref (α 0)), (1, .int i), (2, .int v), (3, .ref (α 114))] := hl
  obtain ⟨w, RT, hw, hD⟩ := hD0
  refine lv_aload_n hx hb dL_feeder_0 rfl (lv_at hl 3 rfl) ?_
  refine lv_iconst (v := 0) hx hb dL_feeder_1 (by decide) ?_
  refine lv_aload_n hx hb dL_feeder_2 rfl (lv_at hl 0 rfl) ?_
  refine lv_iload_n hx hb dL_feeder_3 rfl (lv_at hl 1 rfl) ?_
  refine lv_iload_n hx hb dL_feeder_4 rfl (lv_at hl 2 rfl) ?_
  refine dpc_Vi hF hK hN hE hZ (c_X5_feeder l hl9 D G α w R RT RS kp sv n F len i v _ hα hw hD (gd_bz hg) (gd_mono hg) hn6 hl6 ) (cwV 2 hts gL_feeder_X5_feeder rfl rfl rfl (by decide +kernel) ⟨Nat.le_of_ble_eq_true rfl, Nat.le_of_ble_eq_true rfl⟩) (dp_recv hK hD.1 rfl) hS (fun q hq => Or.inl hq) [.int 0, .ref (α 114)] rfl rfl hl.1 (Nat.le_of_ble_eq_true rfl) dL_feeder_5 ⟨Nat.le_of_ble_eq_true rfl, Nat.le_of_ble_eq_true rfl⟩ (fun E ce q9 HX locs hX hzX hkX hS hce hcv hcl => ?_) (fun rH HN locs hp hzN hkN hS => ?_)
  · have hD0 := DW.all ⟨w, RT, hw, hD⟩ (fun k _ hk9 => hkX _ hk9)
    have hL := hL.kept (hkX _ hL.lt)
    rcases hX with ⟨rfl, h9⟩ | ⟨rfl, h9⟩
    · refine vx_catch (name := xI) hown (tableOf []) ⟨0, 10, 13, 13⟩ (tableOf [(0, 10, 17, 15)]) (htab.trans rfl) (fun z hz => by cases hz) (by decide) (by decide) (hts (.classLink RL 13 "java/lang/IndexOutOfBoundsException") (List.mem_of_getElem? (i := 1) rfl)) (va_Nw.use rfl hE.1.2.2.2.2.1) hce hcv hcl ?_
      refine lv_astore (lv' := [(4, .ref q9), (0, .ref (α 0)), (1, .int i), (2, .int v), (3, .ref (α 114))]) hx hb dL_feeder_13 hl (by decide) rfl (fun ls hl => ?_)
      refine lv_iconst (v := 1) hx hb dL_feeder_15 (by decide) ?_
      exact W.iret hx hb hr (fun t ht hW => ⟨⟨1, HX, rfl, ⟨h9, Or.inr ⟨by rw [h9]; decide, hD0, hL⟩⟩, ht⟩, hS.F ht⟩) hS.2.2 dL_feeder_16
    · refine vx_catch (name := xA) hown (tableOf [(0, 10, 13, 13)]) ⟨0, 10, 17, 15⟩ (tableOf []) (htab.trans rfl) (fun z hz => by obtain rfl := List.mem_singleton.mp hz; exact Or.inr ⟨by decide, xI, (hts (.classLink RL 13 "java/lang/IndexOutOfBoundsException") (List.mem_of_getElem? (i := 1) rfl)), hC.1⟩) (by decide) (by decide) (hts (.classLink RL 15 "java/lang/IllegalArgumentException") (List.mem_of_getElem? (i := 2) rfl)) (va_Nw.use rfl hE.1.2.2.2.2.2) hce hcv hcl ?_
      refine lv_astore (lv' := [(4, .ref q9), (0, .ref (α 0)), (1, .int i), (2, .int v), (3, .ref (α 114))]) hx hb dL_feeder_17 hl (by decide) rfl (fun ls hl => ?_)
      refine lv_iconst (v := 2) hx hb dL_feeder_19 (by decide) ?_
      exact W.iret hx hb hr (fun t ht hW => ⟨⟨2, HX, rfl, ⟨h9, Or.inr ⟨by rw [h9]; decide, hD0, hL⟩⟩, ht⟩, hS.F ht⟩) hS.2.2 dL_feeder_20
  · obtain ⟨h9, rfl, hD⟩ := hp
    have hL := hL.kept (hkN _ hL.lt (A5_114 hα))
    refine lv_i2l hx hb dL_feeder_8 rfl ?_
    refine dp_last (A := AL α) hx hb hK hL (Or.inr rfl) hS 4 rfl 0 rfl (by decide) (by decide) dL_feeder_9 (fun H1 locs hL hzH1 hkH1 hS => ?_)
    have hD := DW.all hD (fun k hk9 _ => hkH1 _ (a114 hα hk9))
    refine lv_goto (tgt := 21) hx hb dL_feeder_10 (by decide) ?_
    refine lv_iconst (v := 0) hx hb dL_feeder_21 (by decide) ?_
    exact W.iret hx hb hr (fun t ht hW => ⟨⟨0, H1, rfl, ⟨h9, Or.inl ⟨h9, hD, _, pk_uLs, hL⟩⟩, ht⟩, hS.F ht⟩) hS.2.2 dL_feeder_22

set_option maxHeartbeats 600000 in
set_option maxRecDepth 100000 in
theorem c_L_pass (l : Launch) (hl9 : l.stackTraces = false) (D : va_G) (G : Nat → ClassId) (α : Nat → Nat) (R RS : Nat → Int32) (kp : Int32) (sv : Nat → Nat → Int32) (n : Nat) (F : Nat → Int32) (len : Nat) (oo : Nat → Int64) (t : Int32) (H : Heap) (hα : inj 115 α) (hD0 : DW D G α R RS kp sv n F len H) (hL : va_at D vwCl (α 114, .inl (G 4, 1, .inr (.inl oo))) H) (hg : gd R) (hn6 : n ≤ 6) (hl6 : len ≤ 60) : Met l yL_pass wsL_pass ({ frames := 8, cells := 1, slots := 6, locals := 136 } : Room) (va_Pc [.ref (α 0), .int t, .ref (α 114)] (CL D G (AL α) H)) (QI (AL α) (fun r h => cPass t = r ∧ ((cPass t = 0 ∧ DW D G α (pt R (ix t)) RS kp (svs sv n R) (svn n) F len h ∧ ∃ o2 : Nat → Int64, o2 0 = Int32.toInt64 (ptn R (ix t)) ∧ va_at D vwCl (α 114, .inl (G 4, 1, .inr (.inl o2))) h) ∨ (¬ cPass t = 0 ∧ DW D G α R RS kp sv n F len h ∧ va_at D vwCl (α 114, .inl (G 4, 1, .inr (.inl oo))) h)))) 1 6 (AL α) := by
  refine dp_ofWH (cc := cL_pass) (maxL := 4) (ret := (some .int)) (by decide) rfl ?_
  intro p e s m args below meth c s₁ B0 hml hv
  obtain ⟨rfl, ⟨rfl, hK, hN⟩, hE, hZ, hC⟩ := hv
  have hx := B0.exec
  have hb := B0.bytes
  have hr := B0.returns
  have hts := atoms_spec (ws := wsL_pass) B0.pre
  have htab := vx_table (x := yL_pass) B0 (hts (.codeWith yL_pass cL_pass 4 (some .int) [(0, 9, 12, 15)]) (List.mem_of_getElem? (i := 0) rfl))
  have hown : s.vm.findClass RL = some m.cls := findClass_of_methodNamed B0.named
  have hlocks := B0.notSynchronized
  have hF : CallFix p m c cL_pass 4 s ([.ref (α 0), .int t, .ref (α 114)] : List Value).toArray wsL_pass RL := ⟨hx, hb, hml, hown, hts⟩
  have hS : va_S (AL α) s.heap s.heap [] := va_S.rf
  have hl := lv_entry ([.ref (α 0), .int t, .ref (α 114)]) (n := 4) (Nat.le_of_ble_eq_true rfl)
  rw [lg_entry_eq]
  generalize (lg_sl ([.ref (α 0), .int t, .ref (α 114)]) ++ List.replicate (4 - (lg_sl ([.ref (α 0), .int t, .ref (α 114)])).length) Slot.unset).toArray = ls at hl ⊢
  have hl : lv_has ls 4 [(0, .ref (α 0)), (1, .int t), (2, .ref (α 114))] := hl
  obtain ⟨w, RT, hw, hD⟩ := hD0
  refine lv_aload_n hx hb dL_pass_0 rfl (lv_at hl 2 rfl) ?_
  refine lv_iconst (v := 0) hx hb dL_pass_1 (by decide) ?_
  refine lv_aload_n hx hb dL_pass_2 rfl (lv_at hl 0 rfl) ?_
  refine lv_iload_n hx hb dL_pass_3 rfl (lv_at hl 1 rfl) ?_
  refine dpc_Vi hF hK hN hE hZ (c_X5_pass l hl9 D G α w R RT RS kp sv n F len t _ hα hw hD (gd_bz hg) (gd_mono hg) hn6 hl6 (fun k _ => gd_mono (gd_pt hg k))) (cwV 1 hts gL_pass_X5_pass rfl rfl rfl (by decide +kernel) ⟨Nat.le_of_ble_eq_true rfl, Nat.le_of_ble_eq_true rfl⟩) (dp_recv hK hD.1 rfl) hS (fun q hq => Or.inl hq) [.int 0, .ref (α 114)] rfl rfl hl.1 (Nat.le_of_ble_eq_true rfl) dL_pass_4 ⟨Nat.le_of_ble_eq_true rfl, Nat.le_of_ble_eq_true rfl⟩ (fun E ce q9 HX locs hX hzX hkX hS hce hcv hcl => ?_) (fun rH HN locs hp hzN hkN hS => ?_)
  · have hD0 := DW.all ⟨w, RT, hw, hD⟩ (fun k _ hk9 => hkX _ hk9)
    have hL := hL.kept (hkX _ hL.lt)
    obtain ⟨rfl, h9⟩ := hX
    refine vx_catch (name := xA) hown (tableOf []) ⟨0, 9, 12, 15⟩ (tableOf []) (htab.trans rfl) (fun z hz => by cases hz) (by decide) (by decide) (hts (.classLink RL 15 "java/lang/IllegalArgumentException") (List.mem_of_getElem? (i := 1) rfl)) (va_Nw.use rfl hE.1.2.2.2.2.2) hce hcv hcl ?_
    refine lv_astore_n (lv' := [(3, .ref q9), (0, .ref (α 0)), (1, .int t), (2, .ref (α 114))]) hx hb dL_pass_12 rfl hl (by decide) rfl (fun ls hl => ?_)
    refine lv_iconst (v := 1) hx hb dL_pass_13 (by decide) ?_
    exact W.iret hx hb hr (fun t ht hW => ⟨⟨1, HX, rfl, ⟨h9, Or.inr ⟨by rw [h9]; decide, hD0, hL⟩⟩, ht⟩, hS.F ht⟩) hS.2.2 dL_pass_14
  · obtain ⟨h9, rfl, hD⟩ := hp
    have hL := hL.kept (hkN _ hL.lt (A5_114 hα))
    refine lv_i2l hx hb dL_pass_7 rfl ?_
    refine dp_last (A := AL α) hx hb hK hL (Or.inr rfl) hS 4 rfl 0 rfl (by decide) (by decide) dL_pass_8 (fun H1 locs hL hzH1 hkH1 hS => ?_)
    have hD := DW.all hD (fun k hk9 _ => hkH1 _ (a114 hα hk9))
    refine lv_goto (tgt := 15) hx hb dL_pass_9 (by decide) ?_
    refine lv_iconst (v := 0) hx hb dL_pass_15 (by decide) ?_
    exact W.iret hx hb hr (fun t ht hW => ⟨⟨0, H1, rfl, ⟨h9, Or.inl ⟨h9, hD, _, pk_uLs, hL⟩⟩, ht⟩, hS.F ht⟩) hS.2.2 dL_pass_16

set_option maxHeartbeats 600000 in
set_option maxRecDepth 100000 in
theorem c_L_set (l : Launch) (hl9 : l.stackTraces = false) (D : va_G) (G : Nat → ClassId) (α : Nat → Nat) (R RS : Nat → Int32) (kp : Int32) (sv : Nat → Nat → Int32) (n : Nat) (F : Nat → Int32) (len : Nat) (oo : Nat → Int64) (i v : Int32) (H : Heap) (hα : inj 115 α) (hD0 : DW D G α R RS kp sv n F len H) (hL : va_at D vwCl (α 114, .inl (G 4, 1, .inr (.inl oo))) H) (hg : gd R) (hn6 : n ≤ 6) (hl6 : len ≤ 60) : Met l yL_set wsL_set ({ frames := 8, cells := 2, slots := 12, locals := 135 } : Room) (va_Pc [.ref (α 0), .int i, .int v, .ref (α 114)] (CL D G (AL α) H)) (QI (AL α) (fun r h => cSet i v = r ∧ ((cSet i v = 0 ∧ DW D G α (upd R (ix i) v) RS kp (svs sv n R) (svn n) F len h ∧ ∃ o2 : Nat → Int64, o2 0 = Int32.toInt64 (R (ix i)) ∧ va_at D vwCl (α 114, .inl (G 4, 1, .inr (.inl o2))) h) ∨ (¬ cSet i v = 0 ∧ DW D G α R RS kp sv n F len h ∧ va_at D vwCl (α 114, .inl (G 4, 1, .inr (.inl oo))) h)))) 2 12 (AL α) := by
  refine dp_ofWH (cc := cL_set) (maxL := 5) (ret := (some .int)) (by decide) rfl ?_
  intro p e s m args below meth c s₁ B0 hml hv
  obtain ⟨rfl, ⟨rfl, hK, hN⟩, hE, hZ, hC⟩ := hv
  have hx := B0.exec
  have hb := B0.bytes
  have hr := B0.returns
  have hts := atoms_spec (ws := wsL_set) B0.pre
  have htab := vx_table (x := yL_set) B0 (hts (.codeWith yL_set cL_set 5 (some .int) [(0, 10, 13, 13), (0, 10, 17, 15)]) (List.mem_of_getElem? (i := 0) rfl))
  have hown : s.vm.findClass RL = some m.cls := findClass_of_methodNamed B0.named
  have hlocks := B0.notSynchronized
  have hF : CallFix p m c cL_set 5 s ([.ref (α 0), .int i, .int v, .ref (α 114)] : List Value).toArray wsL_set RL := ⟨hx, hb, hml, hown, hts⟩
  have hS : va_S (AL α) s.heap s.heap [] := va_S.rf
  have hl := lv_entry ([.ref (α 0), .int i, .int v, .ref (α 114)]) (n := 5) (Nat.le_of_ble_eq_true rfl)
  rw [lg_entry_eq]
  generalize (lg_sl ([.ref (α 0), .int i, .int v, .ref (α 114)]) ++ List.replicate (5 - (lg_sl ([.ref (α 0), .int i, .int v, .ref (α 114)])).length) Slot.unset).toArray = ls at hl ⊢
  have hl : lv_has ls 5 [(0, .ref (α 0)), (1, .int i), (2, .int v), (3, .ref (α 114))] := hl
  obtain ⟨w, RT, hw, hD⟩ := hD0
  refine lv_aload_n hx hb dL_set_0 rfl (lv_at hl 3 rfl) ?_
  refine lv_iconst (v := 0) hx hb dL_set_1 (by decide) ?_
  refine lv_aload_n hx hb dL_set_2 rfl (lv_at hl 0 rfl) ?_
  refine lv_iload_n hx hb dL_set_3 rfl (lv_at hl 1 rfl) ?_
  refine lv_iload_n hx hb dL_set_4 rfl (lv_at hl 2 rfl) ?_
  refine dpc_Vi hF hK hN hE hZ (c_X5_set l hl9 D G α w R RT RS kp sv n F len i v _ hα hw hD (gd_bz hg) (gd_mono hg) hn6 hl6 ) (cwV 2 hts gL_set_X5_set rfl rfl rfl (by decide +kernel) ⟨Nat.le_of_ble_eq_true rfl, Nat.le_of_ble_eq_true rfl⟩) (dp_recv hK hD.1 rfl) hS (fun q hq => Or.inl hq) [.int 0, .ref (α 114)] rfl rfl hl.1 (Nat.le_of_ble_eq_true rfl) dL_set_5 ⟨Nat.le_of_ble_eq_true rfl, Nat.le_of_ble_eq_true rfl⟩ (fun E ce q9 HX locs hX hzX hkX hS hce hcv hcl => ?_) (fun rH HN locs hp hzN hkN hS => ?_)
  · have hD0 := DW.all ⟨w, RT, hw, hD⟩ (fun k _ hk9 => hkX _ hk9)
    have hL := hL.kept (hkX _ hL.lt)
    rcases hX with ⟨rfl, h9⟩ | ⟨rfl, h9⟩
    · refine vx_catch (name := xI) hown (tableOf []) ⟨0, 10, 13, 13⟩ (tableOf [(0, 10, 17, 15)]) (htab.trans rfl) (fun z hz => by cases hz) (by decide) (by decide) (hts (.classLink RL 13 "java/lang/IndexOutOfBoundsException") (List.mem_of_getElem? (i := 1) rfl)) (va_Nw.use rfl hE.1.2.2.2.2.1) hce hcv hcl ?_
      refine lv_astore (lv' := [(4, .ref q9), (0, .ref (α 0)), (1, .int i), (2, .int v), (3, .ref (α 114))]) hx hb dL_set_13 hl (by decide) rfl (fun ls hl => ?_)
      refine lv_iconst (v := 1) hx hb dL_set_15 (by decide) ?_
      exact W.iret hx hb hr (fun t ht hW => ⟨⟨1, HX, rfl, ⟨h9, Or.inr ⟨by rw [h9]; decide, hD0, hL⟩⟩, ht⟩, hS.F ht⟩) hS.2.2 dL_set_16
    · refine vx_catch (name := xA) hown (tableOf [(0, 10, 13, 13)]) ⟨0, 10, 17, 15⟩ (tableOf []) (htab.trans rfl) (fun z hz => by obtain rfl := List.mem_singleton.mp hz; exact Or.inr ⟨by decide, xI, (hts (.classLink RL 13 "java/lang/IndexOutOfBoundsException") (List.mem_of_getElem? (i := 1) rfl)), hC.1⟩) (by decide) (by decide) (hts (.classLink RL 15 "java/lang/IllegalArgumentException") (List.mem_of_getElem? (i := 2) rfl)) (va_Nw.use rfl hE.1.2.2.2.2.2) hce hcv hcl ?_
      refine lv_astore (lv' := [(4, .ref q9), (0, .ref (α 0)), (1, .int i), (2, .int v), (3, .ref (α 114))]) hx hb dL_set_17 hl (by decide) rfl (fun ls hl => ?_)
      refine lv_iconst (v := 2) hx hb dL_set_19 (by decide) ?_
      exact W.iret hx hb hr (fun t ht hW => ⟨⟨2, HX, rfl, ⟨h9, Or.inr ⟨by rw [h9]; decide, hD0, hL⟩⟩, ht⟩, hS.F ht⟩) hS.2.2 dL_set_20
  · obtain ⟨h9, rfl, hD⟩ := hp
    have hL := hL.kept (hkN _ hL.lt (A5_114 hα))
    refine lv_i2l hx hb dL_set_8 rfl ?_
    refine dp_last (A := AL α) hx hb hK hL (Or.inr rfl) hS 4 rfl 0 rfl (by decide) (by decide) dL_set_9 (fun H1 locs hL hzH1 hkH1 hS => ?_)
    have hD := DW.all hD (fun k hk9 _ => hkH1 _ (a114 hα hk9))
    refine lv_goto (tgt := 21) hx hb dL_set_10 (by decide) ?_
    refine lv_iconst (v := 0) hx hb dL_set_21 (by decide) ?_
    exact W.iret hx hb hr (fun t ht hW => ⟨⟨0, H1, rfl, ⟨h9, Or.inl ⟨h9, hD, _, pk_uLs, hL⟩⟩, ht⟩, hS.F ht⟩) hS.2.2 dL_set_22

set_option maxHeartbeats 600000 in
set_option maxRecDepth 100000 in
theorem c_L_append (l : Launch) (hl9 : l.stackTraces = false) (D : va_G) (G : Nat → ClassId) (α : Nat → Nat) (R RS : Nat → Int32) (kp : Int32) (sv : Nat → Nat → Int32) (n : Nat) (F : Nat → Int32) (len : Nat) (oo : Nat → Int64) (ch : Int32) (H : Heap) (hα : inj 115 α) (hD0 : DW D G α R RS kp sv n F len H) (hL : va_at D vwCl (α 114, .inl (G 4, 1, .inr (.inl oo))) H) (hg : gd R) (hn6 : n ≤ 6) (hl6 : len ≤ 60) : Met l yL_append wsL_append ({ frames := 8, cells := 2, slots := 12, locals := 133 } : Room) (va_Pc [.ref (α 0), .int ch, .ref (α 114)] (CL D G (AL α) H)) (QI (AL α) (fun r h => cApp ch len = r ∧ ((cApp ch len = 0 ∧ DW D G α R RS kp sv n (upd F len ch) (len + 1) h ∧ ∃ o2 : Nat → Int64, o2 0 = Int32.toInt64 (nI (len + 1)) ∧ va_at D vwCl (α 114, .inl (G 4, 1, .inr (.inl o2))) h) ∨ (¬ cApp ch len = 0 ∧ DW D G α R RS kp sv n F len h ∧ va_at D vwCl (α 114, .inl (G 4, 1, .inr (.inl oo))) h)))) 2 12 (AL α) := by
  refine dp_ofWH (cc := cL_append) (maxL := 4) (ret := (some .int)) (by decide) rfl ?_
  intro p e s m args below meth c s₁ B0 hml hv
  obtain ⟨rfl, ⟨rfl, hK, hN⟩, hE, hZ, hC⟩ := hv
  have hx := B0.exec
  have hb := B0.bytes
  have hr := B0.returns
  have hts := atoms_spec (ws := wsL_append) B0.pre
  have htab := vx_table (x := yL_append) B0 (hts (.codeWith yL_append cL_append 4 (some .int) [(0, 9, 12, 15), (0, 9, 15, 17)]) (List.mem_of_getElem? (i := 0) rfl))
  have hown : s.vm.findClass RL = some m.cls := findClass_of_methodNamed B0.named
  have hlocks := B0.notSynchronized
  have hF : CallFix p m c cL_append 4 s ([.ref (α 0), .int ch, .ref (α 114)] : List Value).toArray wsL_append RL := ⟨hx, hb, hml, hown, hts⟩
  have hS : va_S (AL α) s.heap s.heap [] := va_S.rf
  have hl := lv_entry ([.ref (α 0), .int ch, .ref (α 114)]) (n := 4) (Nat.le_of_ble_eq_true rfl)
  rw [lg_entry_eq]
  generalize (lg_sl ([.ref (α 0), .int ch, .ref (α 114)]) ++ List.replicate (4 - (lg_sl ([.ref (α 0), .int ch, .ref (α 114)])).length) Slot.unset).toArray = ls at hl ⊢
  have hl : lv_has ls 4 [(0, .ref (α 0)), (1, .int ch), (2, .ref (α 114))] := hl
  obtain ⟨w, RT, hw, hD⟩ := hD0
  refine lv_aload_n hx hb dL_append_0 rfl (lv_at hl 2 rfl) ?_
  refine lv_iconst (v := 0) hx hb dL_append_1 (by decide) ?_
  refine lv_aload_n hx hb dL_append_2 rfl (lv_at hl 0 rfl) ?_
  refine lv_iload_n hx hb dL_append_3 rfl (lv_at hl 1 rfl) ?_
  refine dpc_Vi hF hK hN hE hZ (c_X5_append l hl9 D G α w R RT RS kp sv n F len ch _ hα hw hD (gd_bz hg) (gd_mono hg) hn6 hl6 ) (cwV 1 hts gL_append_X5_append rfl rfl rfl (by decide +kernel) ⟨Nat.le_of_ble_eq_true rfl, Nat.le_of_ble_eq_true rfl⟩) (dp_recv hK hD.1 rfl) hS (fun q hq => Or.inl hq) [.int 0, .ref (α 114)] rfl rfl hl.1 (Nat.le_of_ble_eq_true rfl) dL_append_4 ⟨Nat.le_of_ble_eq_true rfl, Nat.le_of_ble_eq_true rfl⟩ (fun E ce q9 HX locs hX hzX hkX hS hce hcv hcl => ?_) (fun rH HN locs hp hzN hkN hS => ?_)
  · have hD0 := DW.all ⟨w, RT, hw, hD⟩ (fun k _ hk9 => hkX _ hk9)
    have hL := hL.kept (hkX _ hL.lt)
    rcases hX with ⟨rfl, h9⟩ | ⟨rfl, h9⟩
    · refine vx_catch (name := xA) hown (tableOf []) ⟨0, 9, 12, 15⟩ (tableOf [(0, 9, 15, 17)]) (htab.trans rfl) (fun z hz => by cases hz) (by decide) (by decide) (hts (.classLink RL 15 "java/lang/IllegalArgumentException") (List.mem_of_getElem? (i := 1) rfl)) (va_Nw.use rfl hE.1.2.2.2.2.2) hce hcv hcl ?_
      refine lv_astore_n (lv' := [(3, .ref q9), (0, .ref (α 0)), (1, .int ch), (2, .ref (α 114))]) hx hb dL_append_12 rfl hl (by decide) rfl (fun ls hl => ?_)
      refine lv_iconst (v := 1) hx hb dL_append_13 (by decide) ?_
      exact W.iret hx hb hr (fun t ht hW => ⟨⟨1, HX, rfl, ⟨h9, Or.inr ⟨by rw [h9]; decide, hD0, hL⟩⟩, ht⟩, hS.F ht⟩) hS.2.2 dL_append_14
    · refine vx_catch (name := xS) hown (tableOf [(0, 9, 12, 15)]) ⟨0, 9, 15, 17⟩ (tableOf []) (htab.trans rfl) (fun z hz => by obtain rfl := List.mem_singleton.mp hz; exact Or.inr ⟨by decide, xA, (hts (.classLink RL 15 "java/lang/IllegalArgumentException") (List.mem_of_getElem? (i := 1) rfl)), hC.2.2⟩) (by decide) (by decide) (hts (.classLink RL 17 "java/lang/IllegalStateException") (List.mem_of_getElem? (i := 2) rfl)) (va_Nw.use rfl hE.1.2.2.2.1) hce hcv hcl ?_
      refine lv_astore_n (lv' := [(3, .ref q9), (0, .ref (α 0)), (1, .int ch), (2, .ref (α 114))]) hx hb dL_append_15 rfl hl (by decide) rfl (fun ls hl => ?_)
      refine lv_iconst (v := 2) hx hb dL_append_16 (by decide) ?_
      exact W.iret hx hb hr (fun t ht hW => ⟨⟨2, HX, rfl, ⟨h9, Or.inr ⟨by rw [h9]; decide, hD0, hL⟩⟩, ht⟩, hS.F ht⟩) hS.2.2 dL_append_17
  · obtain ⟨h9, rfl, hD⟩ := hp
    have hL := hL.kept (hkN _ hL.lt (A5_114 hα))
    refine lv_i2l hx hb dL_append_7 rfl ?_
    refine dp_last (A := AL α) hx hb hK hL (Or.inr rfl) hS 4 rfl 0 rfl (by decide) (by decide) dL_append_8 (fun H1 locs hL hzH1 hkH1 hS => ?_)
    have hD := DW.all hD (fun k hk9 _ => hkH1 _ (a114 hα hk9))
    refine lv_goto (tgt := 18) hx hb dL_append_9 (by decide) ?_
    refine lv_iconst (v := 0) hx hb dL_append_18 (by decide) ?_
    exact W.iret hx hb hr (fun t ht hW => ⟨⟨0, H1, rfl, ⟨h9, Or.inl ⟨h9, hD, _, pk_uLs, hL⟩⟩, ht⟩, hS.F ht⟩) hS.2.2 dL_append_19

set_option maxHeartbeats 600000 in
set_option maxRecDepth 100000 in
theorem c_L_obey (l : Launch) (hl9 : l.stackTraces = false) (D : va_G) (G : Nat → ClassId) (α : Nat → Nat) (R RS : Nat → Int32) (kp : Int32) (sv : Nat → Nat → Int32) (n : Nat) (F : Nat → Int32) (len : Nat) (oo : Nat → Int64) (H : Heap) (hα : inj 115 α) (hD0 : DW D G α R RS kp sv n F len H) (hL : va_at D vwCl (α 114, .inl (G 4, 1, .inr (.inl oo))) H) (hg : gd R) (hn6 : n ≤ 6) (hl6 : len ≤ 60) : Met l yL_obey wsL_obey ({ frames := 7, cells := 1, slots := 6, locals := 163 } : Room) (va_Pc [.ref (α 0), .ref (α 114)] (CL D G (AL α) H)) (QI (AL α) (fun r h => cObey F len = r ∧ ((cObey F len = 0 ∧ DW D G α (oby F len 60 0 0 R).2 RS kp (svs sv n R) (svn n) F 0 h ∧ ∃ o2 : Nat → Int64, o2 0 = Int32.toInt64 (nI (oby F len 60 0 0 R).1) ∧ va_at D vwCl (α 114, .inl (G 4, 1, .inr (.inl o2))) h) ∨ (¬ cObey F len = 0 ∧ DW D G α R RS kp sv n F len h ∧ va_at D vwCl (α 114, .inl (G 4, 1, .inr (.inl oo))) h)))) 1 6 (AL α) := by
  refine dp_ofWH (cc := cL_obey) (maxL := 3) (ret := (some .int)) (by decide) rfl ?_
  intro p e s m args below meth c s₁ B0 hml hv
  obtain ⟨rfl, ⟨rfl, hK, hN⟩, hE, hZ, hC⟩ := hv
  have hx := B0.exec
  have hb := B0.bytes
  have hr := B0.returns
  have hts := atoms_spec (ws := wsL_obey) B0.pre
  have htab := vx_table (x := yL_obey) B0 (hts (.codeWith yL_obey cL_obey 3 (some .int) [(0, 8, 11, 15)]) (List.mem_of_getElem? (i := 0) rfl))
  have hown : s.vm.findClass RL = some m.cls := findClass_of_methodNamed B0.named
  have hlocks := B0.notSynchronized
  have hF : CallFix p m c cL_obey 3 s ([.ref (α 0), .ref (α 114)] : List Value).toArray wsL_obey RL := ⟨hx, hb, hml, hown, hts⟩
  have hS : va_S (AL α) s.heap s.heap [] := va_S.rf
  have hl := lv_entry ([.ref (α 0), .ref (α 114)]) (n := 3) (Nat.le_of_ble_eq_true rfl)
  rw [lg_entry_eq]
  generalize (lg_sl ([.ref (α 0), .ref (α 114)]) ++ List.replicate (3 - (lg_sl ([.ref (α 0), .ref (α 114)])).length) Slot.unset).toArray = ls at hl ⊢
  have hl : lv_has ls 3 [(0, .ref (α 0)), (1, .ref (α 114))] := hl
  obtain ⟨w, RT, hw, hD⟩ := hD0
  refine lv_aload_n hx hb dL_obey_0 rfl (lv_at hl 1 rfl) ?_
  refine lv_iconst (v := 0) hx hb dL_obey_1 (by decide) ?_
  refine lv_aload_n hx hb dL_obey_2 rfl (lv_at hl 0 rfl) ?_
  refine dpc_Vi hF hK hN hE hZ (c_X5_obey l hl9 D G α w R RT RS kp sv n F len  _ hα hw hD (gd_bz hg) (gd_mono hg) hn6 hl6 (obJ F len) (obJ_0 hg) obJ_s obJ_m) (cwV 0 hts gL_obey_X5_obey rfl rfl rfl (by decide +kernel) ⟨Nat.le_of_ble_eq_true rfl, Nat.le_of_ble_eq_true rfl⟩) (dp_recv hK hD.1 rfl) hS (fun q hq => Or.inl hq) [.int 0, .ref (α 114)] rfl rfl hl.1 (Nat.le_of_ble_eq_true rfl) dL_obey_3 ⟨Nat.le_of_ble_eq_true rfl, Nat.le_of_ble_eq_true rfl⟩ (fun E ce q9 HX locs hX hzX hkX hS hce hcv hcl => ?_) (fun rH HN locs hp hzN hkN hS => ?_)
  · have hD0 := DW.all ⟨w, RT, hw, hD⟩ (fun k _ hk9 => hkX _ hk9)
    have hL := hL.kept (hkX _ hL.lt)
    obtain ⟨rfl, h9⟩ := hX
    refine vx_catch (name := xA) hown (tableOf []) ⟨0, 8, 11, 15⟩ (tableOf []) (htab.trans rfl) (fun z hz => by cases hz) (by decide) (by decide) (hts (.classLink RL 15 "java/lang/IllegalArgumentException") (List.mem_of_getElem? (i := 1) rfl)) (va_Nw.use rfl hE.1.2.2.2.2.2) hce hcv hcl ?_
    refine lv_astore_n (lv' := [(2, .ref q9), (0, .ref (α 0)), (1, .ref (α 114))]) hx hb dL_obey_11 rfl hl (by decide) rfl (fun ls hl => ?_)
    refine lv_iconst (v := 1) hx hb dL_obey_12 (by decide) ?_
    exact W.iret hx hb hr (fun t ht hW => ⟨⟨1, HX, rfl, ⟨h9, Or.inr ⟨by rw [h9]; decide, hD0, hL⟩⟩, ht⟩, hS.F ht⟩) hS.2.2 dL_obey_13
  · obtain ⟨h9, rfl, hD⟩ := hp
    have hL := hL.kept (hkN _ hL.lt (A5_114 hα))
    refine lv_i2l hx hb dL_obey_6 rfl ?_
    refine dp_last (A := AL α) hx hb hK hL (Or.inr rfl) hS 4 rfl 0 rfl (by decide) (by decide) dL_obey_7 (fun H1 locs hL hzH1 hkH1 hS => ?_)
    have hD := DW.all hD (fun k hk9 _ => hkH1 _ (a114 hα hk9))
    refine lv_goto (tgt := 14) hx hb dL_obey_8 (by decide) ?_
    refine lv_iconst (v := 0) hx hb dL_obey_14 (by decide) ?_
    exact W.iret hx hb hr (fun t ht hW => ⟨⟨0, H1, rfl, ⟨h9, Or.inl ⟨h9, hD, _, pk_uLs, hL⟩⟩, ht⟩, hS.F ht⟩) hS.2.2 dL_obey_15

set_option maxHeartbeats 600000 in
set_option maxRecDepth 100000 in
theorem c_L_goBack (l : Launch) (hl9 : l.stackTraces = false) (D : va_G) (G : Nat → ClassId) (α : Nat → Nat) (R RS : Nat → Int32) (kp : Int32) (sv : Nat → Nat → Int32) (n : Nat) (F : Nat → Int32) (len : Nat) (oo : Nat → Int64) (H : Heap) (hα : inj 115 α) (hD0 : DW D G α R RS kp sv n F len H) (hL : va_at D vwCl (α 114, .inl (G 4, 1, .inr (.inl oo))) H) (hg : gd R) (hn6 : n ≤ 6) (hl6 : len ≤ 60) (hks : ¬ kp = 0 → gd RS) : Met l yL_goBack wsL_goBack ({ frames := 7, cells := 1, slots := 6, locals := 110 } : Room) (va_Pc [.ref (α 0), .ref (α 114)] (CL D G (AL α) H)) (QI (AL α) (fun r h => cBack kp = r ∧ ((cBack kp = 0 ∧ DW D G α RS RS kp (svs sv n R) (svn n) F len h ∧ ∃ o2 : Nat → Int64, o2 0 = Int32.toInt64 (RS 4) ∧ va_at D vwCl (α 114, .inl (G 4, 1, .inr (.inl o2))) h) ∨ (¬ cBack kp = 0 ∧ DW D G α R RS kp sv n F len h ∧ va_at D vwCl (α 114, .inl (G 4, 1, .inr (.inl oo))) h)))) 1 6 (AL α) := by
  refine dp_ofWH (cc := cL_goBack) (maxL := 3) (ret := (some .int)) (by decide) rfl ?_
  intro p e s m args below meth c s₁ B0 hml hv
  obtain ⟨rfl, ⟨rfl, hK, hN⟩, hE, hZ, hC⟩ := hv
  have hx := B0.exec
  have hb := B0.bytes
  have hr := B0.returns
  have hts := atoms_spec (ws := wsL_goBack) B0.pre
  have htab := vx_table (x := yL_goBack) B0 (hts (.codeWith yL_goBack cL_goBack 3 (some .int) [(0, 8, 11, 17)]) (List.mem_of_getElem? (i := 0) rfl))
  have hown : s.vm.findClass RL = some m.cls := findClass_of_methodNamed B0.named
  have hlocks := B0.notSynchronized
  have hF : CallFix p m c cL_goBack 3 s ([.ref (α 0), .ref (α 114)] : List Value).toArray wsL_goBack RL := ⟨hx, hb, hml, hown, hts⟩
  have hS : va_S (AL α) s.heap s.heap [] := va_S.rf
  have hl := lv_entry ([.ref (α 0), .ref (α 114)]) (n := 3) (Nat.le_of_ble_eq_true rfl)
  rw [lg_entry_eq]
  generalize (lg_sl ([.ref (α 0), .ref (α 114)]) ++ List.replicate (3 - (lg_sl ([.ref (α 0), .ref (α 114)])).length) Slot.unset).toArray = ls at hl ⊢
  have hl : lv_has ls 3 [(0, .ref (α 0)), (1, .ref (α 114))] := hl
  obtain ⟨w, RT, hw, hD⟩ := hD0
  refine lv_aload_n hx hb dL_goBack_0 rfl (lv_at hl 1 rfl) ?_
  refine lv_iconst (v := 0) hx hb dL_goBack_1 (by decide) ?_
  refine lv_aload_n hx hb dL_goBack_2 rfl (lv_at hl 0 rfl) ?_
  refine dpc_Vi hF hK hN hE hZ (c_X5_goBack l hl9 D G α w R RT RS kp sv n F len  _ hα hw hD (gd_bz hg) (gd_mono hg) hn6 hl6 (fun q => gd_bz (hks q))) (cwV 0 hts gL_goBack_X5_goBack rfl rfl rfl (by decide +kernel) ⟨Nat.le_of_ble_eq_true rfl, Nat.le_of_ble_eq_true rfl⟩) (dp_recv hK hD.1 rfl) hS (fun q hq => Or.inl hq) [.int 0, .ref (α 114)] rfl rfl hl.1 (Nat.le_of_ble_eq_true rfl) dL_goBack_3 ⟨Nat.le_of_ble_eq_true rfl, Nat.le_of_ble_eq_true rfl⟩ (fun E ce q9 HX locs hX hzX hkX hS hce hcv hcl => ?_) (fun rH HN locs hp hzN hkN hS => ?_)
  · have hD0 := DW.all ⟨w, RT, hw, hD⟩ (fun k _ hk9 => hkX _ hk9)
    have hL := hL.kept (hkX _ hL.lt)
    obtain ⟨rfl, h9⟩ := hX
    refine vx_catch (name := xS) hown (tableOf []) ⟨0, 8, 11, 17⟩ (tableOf []) (htab.trans rfl) (fun z hz => by cases hz) (by decide) (by decide) (hts (.classLink RL 17 "java/lang/IllegalStateException") (List.mem_of_getElem? (i := 1) rfl)) (va_Nw.use rfl hE.1.2.2.2.1) hce hcv hcl ?_
    refine lv_astore_n (lv' := [(2, .ref q9), (0, .ref (α 0)), (1, .ref (α 114))]) hx hb dL_goBack_11 rfl hl (by decide) rfl (fun ls hl => ?_)
    refine lv_iconst (v := 1) hx hb dL_goBack_12 (by decide) ?_
    exact W.iret hx hb hr (fun t ht hW => ⟨⟨1, HX, rfl, ⟨h9, Or.inr ⟨by rw [h9]; decide, hD0, hL⟩⟩, ht⟩, hS.F ht⟩) hS.2.2 dL_goBack_13
  · obtain ⟨h9, rfl, hD⟩ := hp
    have hL := hL.kept (hkN _ hL.lt (A5_114 hα))
    refine lv_i2l hx hb dL_goBack_6 rfl ?_
    refine dp_last (A := AL α) hx hb hK hL (Or.inr rfl) hS 4 rfl 0 rfl (by decide) (by decide) dL_goBack_7 (fun H1 locs hL hzH1 hkH1 hS => ?_)
    have hD := DW.all hD (fun k hk9 _ => hkH1 _ (a114 hα hk9))
    refine lv_goto (tgt := 14) hx hb dL_goBack_8 (by decide) ?_
    refine lv_iconst (v := 0) hx hb dL_goBack_14 (by decide) ?_
    exact W.iret hx hb hr (fun t ht hW => ⟨⟨0, H1, rfl, ⟨h9, Or.inl ⟨h9, hD, _, pk_uLs, hL⟩⟩, ht⟩, hS.F ht⟩) hS.2.2 dL_goBack_15

set_option maxHeartbeats 600000 in
set_option maxRecDepth 100000 in
theorem c_L_undo (l : Launch) (hl9 : l.stackTraces = false) (D : va_G) (G : Nat → ClassId) (α : Nat → Nat) (R RS : Nat → Int32) (kp : Int32) (sv : Nat → Nat → Int32) (n : Nat) (F : Nat → Int32) (len : Nat) (oo : Nat → Int64) (H : Heap) (hα : inj 115 α) (hD0 : DW D G α R RS kp sv n F len H) (hL : va_at D vwCl (α 114, .inl (G 4, 1, .inr (.inl oo))) H) (hg : gd R) (hn6 : n ≤ 6) (hl6 : len ≤ 60) (hsv : ∀ i, i < n → gd (sv i)) : Met l yL_undo wsL_undo ({ frames := 7, cells := 1, slots := 6, locals := 110 } : Room) (va_Pc [.ref (α 0), .ref (α 114)] (CL D G (AL α) H)) (QI (AL α) (fun r h => cUndo n = r ∧ ((cUndo n = 0 ∧ DW D G α (sv (n - 1)) RS kp sv (n - 1) F len h ∧ ∃ o2 : Nat → Int64, o2 0 = Int32.toInt64 (nI (n - 1)) ∧ va_at D vwCl (α 114, .inl (G 4, 1, .inr (.inl o2))) h) ∨ (¬ cUndo n = 0 ∧ DW D G α R RS kp sv n F len h ∧ va_at D vwCl (α 114, .inl (G 4, 1, .inr (.inl oo))) h)))) 1 6 (AL α) := by
  refine dp_ofWH (cc := cL_undo) (maxL := 3) (ret := (some .int)) (by decide) rfl ?_
  intro p e s m args below meth c s₁ B0 hml hv
  obtain ⟨rfl, ⟨rfl, hK, hN⟩, hE, hZ, hC⟩ := hv
  have hx := B0.exec
  have hb := B0.bytes
  have hr := B0.returns
  have hts := atoms_spec (ws := wsL_undo) B0.pre
  have htab := vx_table (x := yL_undo) B0 (hts (.codeWith yL_undo cL_undo 3 (some .int) [(0, 8, 11, 17)]) (List.mem_of_getElem? (i := 0) rfl))
  have hown : s.vm.findClass RL = some m.cls := findClass_of_methodNamed B0.named
  have hlocks := B0.notSynchronized
  have hF : CallFix p m c cL_undo 3 s ([.ref (α 0), .ref (α 114)] : List Value).toArray wsL_undo RL := ⟨hx, hb, hml, hown, hts⟩
  have hS : va_S (AL α) s.heap s.heap [] := va_S.rf
  have hl := lv_entry ([.ref (α 0), .ref (α 114)]) (n := 3) (Nat.le_of_ble_eq_true rfl)
  rw [lg_entry_eq]
  generalize (lg_sl ([.ref (α 0), .ref (α 114)]) ++ List.replicate (3 - (lg_sl ([.ref (α 0), .ref (α 114)])).length) Slot.unset).toArray = ls at hl ⊢
  have hl : lv_has ls 3 [(0, .ref (α 0)), (1, .ref (α 114))] := hl
  obtain ⟨w, RT, hw, hD⟩ := hD0
  refine lv_aload_n hx hb dL_undo_0 rfl (lv_at hl 1 rfl) ?_
  refine lv_iconst (v := 0) hx hb dL_undo_1 (by decide) ?_
  refine lv_aload_n hx hb dL_undo_2 rfl (lv_at hl 0 rfl) ?_
  refine dpc_Vi hF hK hN hE hZ (c_X5_undo l hl9 D G α w R RT RS kp sv n F len  _ hα hw hD (gd_bz hg) (gd_mono hg) hn6 hl6 (fun i hi => gd_bz (hsv i hi))) (cwV 0 hts gL_undo_X5_undo rfl rfl rfl (by decide +kernel) ⟨Nat.le_of_ble_eq_true rfl, Nat.le_of_ble_eq_true rfl⟩) (dp_recv hK hD.1 rfl) hS (fun q hq => Or.inl hq) [.int 0, .ref (α 114)] rfl rfl hl.1 (Nat.le_of_ble_eq_true rfl) dL_undo_3 ⟨Nat.le_of_ble_eq_true rfl, Nat.le_of_ble_eq_true rfl⟩ (fun E ce q9 HX locs hX hzX hkX hS hce hcv hcl => ?_) (fun rH HN locs hp hzN hkN hS => ?_)
  · have hD0 := DW.all ⟨w, RT, hw, hD⟩ (fun k _ hk9 => hkX _ hk9)
    have hL := hL.kept (hkX _ hL.lt)
    obtain ⟨rfl, h9⟩ := hX
    refine vx_catch (name := xS) hown (tableOf []) ⟨0, 8, 11, 17⟩ (tableOf []) (htab.trans rfl) (fun z hz => by cases hz) (by decide) (by decide) (hts (.classLink RL 17 "java/lang/IllegalStateException") (List.mem_of_getElem? (i := 1) rfl)) (va_Nw.use rfl hE.1.2.2.2.1) hce hcv hcl ?_
    refine lv_astore_n (lv' := [(2, .ref q9), (0, .ref (α 0)), (1, .ref (α 114))]) hx hb dL_undo_11 rfl hl (by decide) rfl (fun ls hl => ?_)
    refine lv_iconst (v := 1) hx hb dL_undo_12 (by decide) ?_
    exact W.iret hx hb hr (fun t ht hW => ⟨⟨1, HX, rfl, ⟨h9, Or.inr ⟨by rw [h9]; decide, hD0, hL⟩⟩, ht⟩, hS.F ht⟩) hS.2.2 dL_undo_13
  · obtain ⟨h9, rfl, hD⟩ := hp
    have hL := hL.kept (hkN _ hL.lt (A5_114 hα))
    refine lv_i2l hx hb dL_undo_6 rfl ?_
    refine dp_last (A := AL α) hx hb hK hL (Or.inr rfl) hS 4 rfl 0 rfl (by decide) (by decide) dL_undo_7 (fun H1 locs hL hzH1 hkH1 hS => ?_)
    have hD := DW.all hD (fun k hk9 _ => hkH1 _ (a114 hα hk9))
    refine lv_goto (tgt := 14) hx hb dL_undo_8 (by decide) ?_
    refine lv_iconst (v := 0) hx hb dL_undo_14 (by decide) ?_
    exact W.iret hx hb hr (fun t ht hW => ⟨⟨0, H1, rfl, ⟨h9, Or.inl ⟨h9, hD, _, pk_uLs, hL⟩⟩, ht⟩, hS.F ht⟩) hS.2.2 dL_undo_15

set_option maxHeartbeats 600000 in
set_option maxRecDepth 100000 in
theorem c_L_diesel (l : Launch) (hl9 : l.stackTraces = false) (D : va_G) (G : Nat → ClassId) (α : Nat → Nat) (R RS : Nat → Int32) (kp : Int32) (sv : Nat → Nat → Int32) (n : Nat) (F : Nat → Int32) (len : Nat) (oo : Nat → Int64) (i q : Int32) (H : Heap) (hα : inj 115 α) (hD0 : DW D G α R RS kp sv n F len H) (hL : va_at D vwCl (α 114, .inl (G 4, 1, .inr (.inl oo))) H) (hg : gd R) (hn6 : n ≤ 6) (hl6 : len ≤ 60) : Met l yL_diesel wsL_diesel ({ frames := 8, cells := 2, slots := 12, locals := 136 } : Room) (va_Pc [.ref (α 0), .int i, .int q, .ref (α 114)] (CL D G (AL α) H)) (QI (AL α) (fun r h => cLook i q 12 = r ∧ ((cLook i q 12 = 0 ∧ DW D G α R RS kp sv n F len h ∧ ∃ o2 : Nat → Int64, o2 0 = Int32.toInt64 (tset R (ix i) q) ∧ va_at D vwCl (α 114, .inl (G 4, 1, .inr (.inl o2))) h) ∨ (¬ cLook i q 12 = 0 ∧ DW D G α R RS kp sv n F len h ∧ va_at D vwCl (α 114, .inl (G 4, 1, .inr (.inl oo))) h)))) 2 12 (AL α) := by
  refine dp_ofWH (cc := cL_diesel) (maxL := 5) (ret := (some .int)) (by decide) rfl ?_
  intro p e s m args below meth c s₁ B0 hml hv
  obtain ⟨rfl, ⟨rfl, hK, hN⟩, hE, hZ, hC⟩ := hv
  have hx := B0.exec
  have hb := B0.bytes
  have hr := B0.returns
  have hts := atoms_spec (ws := wsL_diesel) B0.pre
  have htab := vx_table (x := yL_diesel) B0 (hts (.codeWith yL_diesel cL_diesel 5 (some .int) [(0, 10, 13, 13), (0, 10, 17, 15)]) (List.mem_of_getElem? (i := 0) rfl))
  have hown : s.vm.findClass RL = some m.cls := findClass_of_methodNamed B0.named
  have hlocks := B0.notSynchronized
  have hF : CallFix p m c cL_diesel 5 s ([.ref (α 0), .int i, .int q, .ref (α 114)] : List Value).toArray wsL_diesel RL := ⟨hx, hb, hml, hown, hts⟩
  have hS : va_S (AL α) s.heap s.heap [] := va_S.rf
  have hl := lv_entry ([.ref (α 0), .int i, .int q, .ref (α 114)]) (n := 5) (Nat.le_of_ble_eq_true rfl)
  rw [lg_entry_eq]
  generalize (lg_sl ([.ref (α 0), .int i, .int q, .ref (α 114)]) ++ List.replicate (5 - (lg_sl ([.ref (α 0), .int i, .int q, .ref (α 114)])).length) Slot.unset).toArray = ls at hl ⊢
  have hl : lv_has ls 5 [(0, .ref (α 0)), (1, .int i), (2, .int q), (3, .ref (α 114))] := hl
  obtain ⟨w, RT, hw, hD⟩ := hD0
  refine lv_aload_n hx hb dL_diesel_0 rfl (lv_at hl 3 rfl) ?_
  refine lv_iconst (v := 0) hx hb dL_diesel_1 (by decide) ?_
  refine lv_aload_n hx hb dL_diesel_2 rfl (lv_at hl 0 rfl) ?_
  refine lv_iload_n hx hb dL_diesel_3 rfl (lv_at hl 1 rfl) ?_
  refine lv_iload_n hx hb dL_diesel_4 rfl (lv_at hl 2 rfl) ?_
  refine dpc_Vi hF hK hN hE hZ (c_X5_diesel l hl9 D G α w R RT RS kp sv n F len i q _ hα hw hD (gd_bz hg) (gd_mono hg) hn6 hl6 ) (cwV 2 hts gL_diesel_X5_diesel rfl rfl rfl (by decide +kernel) ⟨Nat.le_of_ble_eq_true rfl, Nat.le_of_ble_eq_true rfl⟩) (dp_recv hK hD.1 rfl) hS (fun q hq => Or.inl hq) [.int 0, .ref (α 114)] rfl rfl hl.1 (Nat.le_of_ble_eq_true rfl) dL_diesel_5 ⟨Nat.le_of_ble_eq_true rfl, Nat.le_of_ble_eq_true rfl⟩ (fun E ce q9 HX locs hX hzX hkX hS hce hcv hcl => ?_) (fun rH HN locs hp hzN hkN hS => ?_)
  · have hD0 := DW.all ⟨w, RT, hw, hD⟩ (fun k _ hk9 => hkX _ hk9)
    have hL := hL.kept (hkX _ hL.lt)
    rcases hX with ⟨rfl, h9⟩ | ⟨rfl, h9⟩
    · refine vx_catch (name := xI) hown (tableOf []) ⟨0, 10, 13, 13⟩ (tableOf [(0, 10, 17, 15)]) (htab.trans rfl) (fun z hz => by cases hz) (by decide) (by decide) (hts (.classLink RL 13 "java/lang/IndexOutOfBoundsException") (List.mem_of_getElem? (i := 1) rfl)) (va_Nw.use rfl hE.1.2.2.2.2.1) hce hcv hcl ?_
      refine lv_astore (lv' := [(4, .ref q9), (0, .ref (α 0)), (1, .int i), (2, .int q), (3, .ref (α 114))]) hx hb dL_diesel_13 hl (by decide) rfl (fun ls hl => ?_)
      refine lv_iconst (v := 1) hx hb dL_diesel_15 (by decide) ?_
      exact W.iret hx hb hr (fun t ht hW => ⟨⟨1, HX, rfl, ⟨h9, Or.inr ⟨by rw [h9]; decide, hD0, hL⟩⟩, ht⟩, hS.F ht⟩) hS.2.2 dL_diesel_16
    · refine vx_catch (name := xA) hown (tableOf [(0, 10, 13, 13)]) ⟨0, 10, 17, 15⟩ (tableOf []) (htab.trans rfl) (fun z hz => by obtain rfl := List.mem_singleton.mp hz; exact Or.inr ⟨by decide, xI, (hts (.classLink RL 13 "java/lang/IndexOutOfBoundsException") (List.mem_of_getElem? (i := 1) rfl)), hC.1⟩) (by decide) (by decide) (hts (.classLink RL 15 "java/lang/IllegalArgumentException") (List.mem_of_getElem? (i := 2) rfl)) (va_Nw.use rfl hE.1.2.2.2.2.2) hce hcv hcl ?_
      refine lv_astore (lv' := [(4, .ref q9), (0, .ref (α 0)), (1, .int i), (2, .int q), (3, .ref (α 114))]) hx hb dL_diesel_17 hl (by decide) rfl (fun ls hl => ?_)
      refine lv_iconst (v := 2) hx hb dL_diesel_19 (by decide) ?_
      exact W.iret hx hb hr (fun t ht hW => ⟨⟨2, HX, rfl, ⟨h9, Or.inr ⟨by rw [h9]; decide, hD0, hL⟩⟩, ht⟩, hS.F ht⟩) hS.2.2 dL_diesel_20
  · obtain ⟨h9, rfl, hD⟩ := hp
    have hL := hL.kept (hkN _ hL.lt (A5_114 hα))
    refine lv_i2l hx hb dL_diesel_8 rfl ?_
    refine dp_last (A := AL α) hx hb hK hL (Or.inr rfl) hS 4 rfl 0 rfl (by decide) (by decide) dL_diesel_9 (fun H1 locs hL hzH1 hkH1 hS => ?_)
    have hD := DW.all hD (fun k hk9 _ => hkH1 _ (a114 hα hk9))
    refine lv_goto (tgt := 21) hx hb dL_diesel_10 (by decide) ?_
    refine lv_iconst (v := 0) hx hb dL_diesel_21 (by decide) ?_
    exact W.iret hx hb hr (fun t ht hW => ⟨⟨0, H1, rfl, ⟨h9, Or.inl ⟨h9, hD, _, pk_uLs, hL⟩⟩, ht⟩, hS.F ht⟩) hS.2.2 dL_diesel_22

set_option maxHeartbeats 600000 in
set_option maxRecDepth 100000 in
theorem c_L_line (l : Launch) (hl9 : l.stackTraces = false) (D : va_G) (G : Nat → ClassId) (α : Nat → Nat) (R RS : Nat → Int32) (kp : Int32) (sv : Nat → Nat → Int32) (n : Nat) (F : Nat → Int32) (len : Nat) (oo : Nat → Int64) (i q : Int32) (H : Heap) (hα : inj 115 α) (hD0 : DW D G α R RS kp sv n F len H) (hL : va_at D vwCl (α 114, .inl (G 4, 1, .inr (.inl oo))) H) (hg : gd R) (hn6 : n ≤ 6) (hl6 : len ≤ 60) : Met l yL_line wsL_line ({ frames := 8, cells := 2, slots := 12, locals := 134 } : Room) (va_Pc [.ref (α 0), .int i, .int q, .ref (α 114)] (CL D G (AL α) H)) (QI (AL α) (fun r h => cLine i q = r ∧ ((cLine i q = 0 ∧ DW D G α R RS kp sv n F len h ∧ ∃ o2 : Nat → Int64, o2 0 = Int32.toInt64 (tfee R (ix i) q) ∧ va_at D vwCl (α 114, .inl (G 4, 1, .inr (.inl o2))) h) ∨ (¬ cLine i q = 0 ∧ DW D G α R RS kp sv n F len h ∧ va_at D vwCl (α 114, .inl (G 4, 1, .inr (.inl oo))) h)))) 2 12 (AL α) := by
  refine dp_ofWH (cc := cL_line) (maxL := 5) (ret := (some .int)) (by decide) rfl ?_
  intro p e s m args below meth c s₁ B0 hml hv
  obtain ⟨rfl, ⟨rfl, hK, hN⟩, hE, hZ, hC⟩ := hv
  have hx := B0.exec
  have hb := B0.bytes
  have hr := B0.returns
  have hts := atoms_spec (ws := wsL_line) B0.pre
  have htab := vx_table (x := yL_line) B0 (hts (.codeWith yL_line cL_line 5 (some .int) [(0, 10, 13, 13), (0, 10, 17, 15)]) (List.mem_of_getElem? (i := 0) rfl))
  have hown : s.vm.findClass RL = some m.cls := findClass_of_methodNamed B0.named
  have hlocks := B0.notSynchronized
  have hF : CallFix p m c cL_line 5 s ([.ref (α 0), .int i, .int q, .ref (α 114)] : List Value).toArray wsL_line RL := ⟨hx, hb, hml, hown, hts⟩
  have hS : va_S (AL α) s.heap s.heap [] := va_S.rf
  have hl := lv_entry ([.ref (α 0), .int i, .int q, .ref (α 114)]) (n := 5) (Nat.le_of_ble_eq_true rfl)
  rw [lg_entry_eq]
  generalize (lg_sl ([.ref (α 0), .int i, .int q, .ref (α 114)]) ++ List.replicate (5 - (lg_sl ([.ref (α 0), .int i, .int q, .ref (α 114)])).length) Slot.unset).toArray = ls at hl ⊢
  have hl : lv_has ls 5 [(0, .ref (α 0)), (1, .int i), (2, .int q), (3, .ref (α 114))] := hl
  obtain ⟨w, RT, hw, hD⟩ := hD0
  refine lv_aload_n hx hb dL_line_0 rfl (lv_at hl 3 rfl) ?_
  refine lv_iconst (v := 0) hx hb dL_line_1 (by decide) ?_
  refine lv_aload_n hx hb dL_line_2 rfl (lv_at hl 0 rfl) ?_
  refine lv_iload_n hx hb dL_line_3 rfl (lv_at hl 1 rfl) ?_
  refine lv_iload_n hx hb dL_line_4 rfl (lv_at hl 2 rfl) ?_
  refine dpc_Vi hF hK hN hE hZ (c_X5_line l hl9 D G α w R RT RS kp sv n F len i q _ hα hw hD (gd_bz hg) (gd_mono hg) hn6 hl6 ) (cwV 2 hts gL_line_X5_line rfl rfl rfl (by decide +kernel) ⟨Nat.le_of_ble_eq_true rfl, Nat.le_of_ble_eq_true rfl⟩) (dp_recv hK hD.1 rfl) hS (fun q hq => Or.inl hq) [.int 0, .ref (α 114)] rfl rfl hl.1 (Nat.le_of_ble_eq_true rfl) dL_line_5 ⟨Nat.le_of_ble_eq_true rfl, Nat.le_of_ble_eq_true rfl⟩ (fun E ce q9 HX locs hX hzX hkX hS hce hcv hcl => ?_) (fun rH HN locs hp hzN hkN hS => ?_)
  · have hD0 := DW.all ⟨w, RT, hw, hD⟩ (fun k _ hk9 => hkX _ hk9)
    have hL := hL.kept (hkX _ hL.lt)
    rcases hX with ⟨rfl, h9⟩ | ⟨rfl, h9⟩
    · refine vx_catch (name := xI) hown (tableOf []) ⟨0, 10, 13, 13⟩ (tableOf [(0, 10, 17, 15)]) (htab.trans rfl) (fun z hz => by cases hz) (by decide) (by decide) (hts (.classLink RL 13 "java/lang/IndexOutOfBoundsException") (List.mem_of_getElem? (i := 1) rfl)) (va_Nw.use rfl hE.1.2.2.2.2.1) hce hcv hcl ?_
      refine lv_astore (lv' := [(4, .ref q9), (0, .ref (α 0)), (1, .int i), (2, .int q), (3, .ref (α 114))]) hx hb dL_line_13 hl (by decide) rfl (fun ls hl => ?_)
      refine lv_iconst (v := 1) hx hb dL_line_15 (by decide) ?_
      exact W.iret hx hb hr (fun t ht hW => ⟨⟨1, HX, rfl, ⟨h9, Or.inr ⟨by rw [h9]; decide, hD0, hL⟩⟩, ht⟩, hS.F ht⟩) hS.2.2 dL_line_16
    · refine vx_catch (name := xA) hown (tableOf [(0, 10, 13, 13)]) ⟨0, 10, 17, 15⟩ (tableOf []) (htab.trans rfl) (fun z hz => by obtain rfl := List.mem_singleton.mp hz; exact Or.inr ⟨by decide, xI, (hts (.classLink RL 13 "java/lang/IndexOutOfBoundsException") (List.mem_of_getElem? (i := 1) rfl)), hC.1⟩) (by decide) (by decide) (hts (.classLink RL 15 "java/lang/IllegalArgumentException") (List.mem_of_getElem? (i := 2) rfl)) (va_Nw.use rfl hE.1.2.2.2.2.2) hce hcv hcl ?_
      refine lv_astore (lv' := [(4, .ref q9), (0, .ref (α 0)), (1, .int i), (2, .int q), (3, .ref (α 114))]) hx hb dL_line_17 hl (by decide) rfl (fun ls hl => ?_)
      refine lv_iconst (v := 2) hx hb dL_line_19 (by decide) ?_
      exact W.iret hx hb hr (fun t ht hW => ⟨⟨2, HX, rfl, ⟨h9, Or.inr ⟨by rw [h9]; decide, hD0, hL⟩⟩, ht⟩, hS.F ht⟩) hS.2.2 dL_line_20
  · obtain ⟨h9, rfl, hD⟩ := hp
    have hL := hL.kept (hkN _ hL.lt (A5_114 hα))
    refine lv_i2l hx hb dL_line_8 rfl ?_
    refine dp_last (A := AL α) hx hb hK hL (Or.inr rfl) hS 4 rfl 0 rfl (by decide) (by decide) dL_line_9 (fun H1 locs hL hzH1 hkH1 hS => ?_)
    have hD := DW.all hD (fun k hk9 _ => hkH1 _ (a114 hα hk9))
    refine lv_goto (tgt := 21) hx hb dL_line_10 (by decide) ?_
    refine lv_iconst (v := 0) hx hb dL_line_21 (by decide) ?_
    exact W.iret hx hb hr (fun t ht hW => ⟨⟨0, H1, rfl, ⟨h9, Or.inl ⟨h9, hD, _, pk_uLs, hL⟩⟩, ht⟩, hS.F ht⟩) hS.2.2 dL_line_22

set_option maxHeartbeats 600000 in
set_option maxRecDepth 100000 in
theorem c_L_count (l : Launch) (hl9 : l.stackTraces = false) (D : va_G) (G : Nat → ClassId) (α : Nat → Nat) (R RS : Nat → Int32) (kp : Int32) (sv : Nat → Nat → Int32) (n : Nat) (F : Nat → Int32) (len : Nat) (oo : Nat → Int64) (q : Int32) (H : Heap) (hα : inj 115 α) (hD0 : DW D G α R RS kp sv n F len H) (hL : va_at D vwCl (α 114, .inl (G 4, 1, .inr (.inl oo))) H) (hg : gd R) (hn6 : n ≤ 6) (hl6 : len ≤ 60) : Met l yL_count wsL_count ({ frames := 8, cells := 1, slots := 6, locals := 133 } : Room) (va_Pc [.ref (α 0), .int q, .ref (α 114)] (CL D G (AL α) H)) (QI (AL α) (fun r h => cCount q = r ∧ ((cCount q = 0 ∧ DW D G α R RS kp sv n F len h ∧ ∃ o2 : Nat → Int64, o2 0 = Int32.toInt64 (tcnt R n q) ∧ va_at D vwCl (α 114, .inl (G 4, 1, .inr (.inl o2))) h) ∨ (¬ cCount q = 0 ∧ DW D G α R RS kp sv n F len h ∧ va_at D vwCl (α 114, .inl (G 4, 1, .inr (.inl oo))) h)))) 1 6 (AL α) := by
  refine dp_ofWH (cc := cL_count) (maxL := 4) (ret := (some .int)) (by decide) rfl ?_
  intro p e s m args below meth c s₁ B0 hml hv
  obtain ⟨rfl, ⟨rfl, hK, hN⟩, hE, hZ, hC⟩ := hv
  have hx := B0.exec
  have hb := B0.bytes
  have hr := B0.returns
  have hts := atoms_spec (ws := wsL_count) B0.pre
  have htab := vx_table (x := yL_count) B0 (hts (.codeWith yL_count cL_count 4 (some .int) [(0, 9, 12, 15)]) (List.mem_of_getElem? (i := 0) rfl))
  have hown : s.vm.findClass RL = some m.cls := findClass_of_methodNamed B0.named
  have hlocks := B0.notSynchronized
  have hF : CallFix p m c cL_count 4 s ([.ref (α 0), .int q, .ref (α 114)] : List Value).toArray wsL_count RL := ⟨hx, hb, hml, hown, hts⟩
  have hS : va_S (AL α) s.heap s.heap [] := va_S.rf
  have hl := lv_entry ([.ref (α 0), .int q, .ref (α 114)]) (n := 4) (Nat.le_of_ble_eq_true rfl)
  rw [lg_entry_eq]
  generalize (lg_sl ([.ref (α 0), .int q, .ref (α 114)]) ++ List.replicate (4 - (lg_sl ([.ref (α 0), .int q, .ref (α 114)])).length) Slot.unset).toArray = ls at hl ⊢
  have hl : lv_has ls 4 [(0, .ref (α 0)), (1, .int q), (2, .ref (α 114))] := hl
  obtain ⟨w, RT, hw, hD⟩ := hD0
  refine lv_aload_n hx hb dL_count_0 rfl (lv_at hl 2 rfl) ?_
  refine lv_iconst (v := 0) hx hb dL_count_1 (by decide) ?_
  refine lv_aload_n hx hb dL_count_2 rfl (lv_at hl 0 rfl) ?_
  refine lv_iload_n hx hb dL_count_3 rfl (lv_at hl 1 rfl) ?_
  refine dpc_Vi hF hK hN hE hZ (c_X5_count l hl9 D G α w R RT RS kp sv n F len q _ hα hw hD (gd_bz hg) (gd_mono hg) hn6 hl6 ) (cwV 1 hts gL_count_X5_count rfl rfl rfl (by decide +kernel) ⟨Nat.le_of_ble_eq_true rfl, Nat.le_of_ble_eq_true rfl⟩) (dp_recv hK hD.1 rfl) hS (fun q hq => Or.inl hq) [.int 0, .ref (α 114)] rfl rfl hl.1 (Nat.le_of_ble_eq_true rfl) dL_count_4 ⟨Nat.le_of_ble_eq_true rfl, Nat.le_of_ble_eq_true rfl⟩ (fun E ce q9 HX locs hX hzX hkX hS hce hcv hcl => ?_) (fun rH HN locs hp hzN hkN hS => ?_)
  · have hD0 := DW.all ⟨w, RT, hw, hD⟩ (fun k _ hk9 => hkX _ hk9)
    have hL := hL.kept (hkX _ hL.lt)
    obtain ⟨rfl, h9⟩ := hX
    refine vx_catch (name := xA) hown (tableOf []) ⟨0, 9, 12, 15⟩ (tableOf []) (htab.trans rfl) (fun z hz => by cases hz) (by decide) (by decide) (hts (.classLink RL 15 "java/lang/IllegalArgumentException") (List.mem_of_getElem? (i := 1) rfl)) (va_Nw.use rfl hE.1.2.2.2.2.2) hce hcv hcl ?_
    refine lv_astore_n (lv' := [(3, .ref q9), (0, .ref (α 0)), (1, .int q), (2, .ref (α 114))]) hx hb dL_count_12 rfl hl (by decide) rfl (fun ls hl => ?_)
    refine lv_iconst (v := 1) hx hb dL_count_13 (by decide) ?_
    exact W.iret hx hb hr (fun t ht hW => ⟨⟨1, HX, rfl, ⟨h9, Or.inr ⟨by rw [h9]; decide, hD0, hL⟩⟩, ht⟩, hS.F ht⟩) hS.2.2 dL_count_14
  · obtain ⟨h9, rfl, hD⟩ := hp
    have hL := hL.kept (hkN _ hL.lt (A5_114 hα))
    refine lv_i2l hx hb dL_count_7 rfl ?_
    refine dp_last (A := AL α) hx hb hK hL (Or.inr rfl) hS 4 rfl 0 rfl (by decide) (by decide) dL_count_8 (fun H1 locs hL hzH1 hkH1 hS => ?_)
    have hD := DW.all hD (fun k hk9 _ => hkH1 _ (a114 hα hk9))
    refine lv_goto (tgt := 15) hx hb dL_count_9 (by decide) ?_
    refine lv_iconst (v := 0) hx hb dL_count_15 (by decide) ?_
    exact W.iret hx hb hr (fun t ht hW => ⟨⟨0, H1, rfl, ⟨h9, Or.inl ⟨h9, hD, _, pk_uLs, hL⟩⟩, ht⟩, hS.F ht⟩) hS.2.2 dL_count_16

set_option maxHeartbeats 600000 in
set_option maxRecDepth 100000 in
theorem c_L_setting (l : Launch) (hl9 : l.stackTraces = false) (D : va_G) (G : Nat → ClassId) (α : Nat → Nat) (R RS : Nat → Int32) (kp : Int32) (sv : Nat → Nat → Int32) (n : Nat) (F : Nat → Int32) (len : Nat) (oo : Nat → Int64) (i : Int32) (H : Heap) (hα : inj 115 α) (hD0 : DW D G α R RS kp sv n F len H) (hL : va_at D vwCl (α 114, .inl (G 4, 1, .inr (.inl oo))) H) (hg : gd R) (hn6 : n ≤ 6) (hl6 : len ≤ 60) : Met l yL_setting wsL_setting ({ frames := 8, cells := 1, slots := 6, locals := 131 } : Room) (va_Pc [.ref (α 0), .int i, .ref (α 114)] (CL D G (AL α) H)) (QI (AL α) (fun r h => cSet1 i = r ∧ ((cSet1 i = 0 ∧ DW D G α R RS kp sv n F len h ∧ ∃ o2 : Nat → Int64, o2 0 = Int32.toInt64 (R (ix i)) ∧ va_at D vwCl (α 114, .inl (G 4, 1, .inr (.inl o2))) h) ∨ (¬ cSet1 i = 0 ∧ DW D G α R RS kp sv n F len h ∧ va_at D vwCl (α 114, .inl (G 4, 1, .inr (.inl oo))) h)))) 1 6 (AL α) := by
  refine dp_ofWH (cc := cL_setting) (maxL := 4) (ret := (some .int)) (by decide) rfl ?_
  intro p e s m args below meth c s₁ B0 hml hv
  obtain ⟨rfl, ⟨rfl, hK, hN⟩, hE, hZ, hC⟩ := hv
  have hx := B0.exec
  have hb := B0.bytes
  have hr := B0.returns
  have hts := atoms_spec (ws := wsL_setting) B0.pre
  have htab := vx_table (x := yL_setting) B0 (hts (.codeWith yL_setting cL_setting 4 (some .int) [(0, 9, 12, 13)]) (List.mem_of_getElem? (i := 0) rfl))
  have hown : s.vm.findClass RL = some m.cls := findClass_of_methodNamed B0.named
  have hlocks := B0.notSynchronized
  have hF : CallFix p m c cL_setting 4 s ([.ref (α 0), .int i, .ref (α 114)] : List Value).toArray wsL_setting RL := ⟨hx, hb, hml, hown, hts⟩
  have hS : va_S (AL α) s.heap s.heap [] := va_S.rf
  have hl := lv_entry ([.ref (α 0), .int i, .ref (α 114)]) (n := 4) (Nat.le_of_ble_eq_true rfl)
  rw [lg_entry_eq]
  generalize (lg_sl ([.ref (α 0), .int i, .ref (α 114)]) ++ List.replicate (4 - (lg_sl ([.ref (α 0), .int i, .ref (α 114)])).length) Slot.unset).toArray = ls at hl ⊢
  have hl : lv_has ls 4 [(0, .ref (α 0)), (1, .int i), (2, .ref (α 114))] := hl
  obtain ⟨w, RT, hw, hD⟩ := hD0
  refine lv_aload_n hx hb dL_setting_0 rfl (lv_at hl 2 rfl) ?_
  refine lv_iconst (v := 0) hx hb dL_setting_1 (by decide) ?_
  refine lv_aload_n hx hb dL_setting_2 rfl (lv_at hl 0 rfl) ?_
  refine lv_iload_n hx hb dL_setting_3 rfl (lv_at hl 1 rfl) ?_
  refine dpc_Vi hF hK hN hE hZ (c_X5_setting l hl9 D G α w R RT RS kp sv n F len i _ hα hw hD (gd_bz hg) (gd_mono hg) hn6 hl6 ) (cwV 1 hts gL_setting_X5_setting rfl rfl rfl (by decide +kernel) ⟨Nat.le_of_ble_eq_true rfl, Nat.le_of_ble_eq_true rfl⟩) (dp_recv hK hD.1 rfl) hS (fun q hq => Or.inl hq) [.int 0, .ref (α 114)] rfl rfl hl.1 (Nat.le_of_ble_eq_true rfl) dL_setting_4 ⟨Nat.le_of_ble_eq_true rfl, Nat.le_of_ble_eq_true rfl⟩ (fun E ce q9 HX locs hX hzX hkX hS hce hcv hcl => ?_) (fun rH HN locs hp hzN hkN hS => ?_)
  · have hD0 := DW.all ⟨w, RT, hw, hD⟩ (fun k _ hk9 => hkX _ hk9)
    have hL := hL.kept (hkX _ hL.lt)
    obtain ⟨rfl, h9⟩ := hX
    refine vx_catch (name := xI) hown (tableOf []) ⟨0, 9, 12, 13⟩ (tableOf []) (htab.trans rfl) (fun z hz => by cases hz) (by decide) (by decide) (hts (.classLink RL 13 "java/lang/IndexOutOfBoundsException") (List.mem_of_getElem? (i := 1) rfl)) (va_Nw.use rfl hE.1.2.2.2.2.1) hce hcv hcl ?_
    refine lv_astore_n (lv' := [(3, .ref q9), (0, .ref (α 0)), (1, .int i), (2, .ref (α 114))]) hx hb dL_setting_12 rfl hl (by decide) rfl (fun ls hl => ?_)
    refine lv_iconst (v := 1) hx hb dL_setting_13 (by decide) ?_
    exact W.iret hx hb hr (fun t ht hW => ⟨⟨1, HX, rfl, ⟨h9, Or.inr ⟨by rw [h9]; decide, hD0, hL⟩⟩, ht⟩, hS.F ht⟩) hS.2.2 dL_setting_14
  · obtain ⟨h9, rfl, hD⟩ := hp
    have hL := hL.kept (hkN _ hL.lt (A5_114 hα))
    refine lv_i2l hx hb dL_setting_7 rfl ?_
    refine dp_last (A := AL α) hx hb hK hL (Or.inr rfl) hS 4 rfl 0 rfl (by decide) (by decide) dL_setting_8 (fun H1 locs hL hzH1 hkH1 hS => ?_)
    have hD := DW.all hD (fun k hk9 _ => hkH1 _ (a114 hα hk9))
    refine lv_goto (tgt := 15) hx hb dL_setting_9 (by decide) ?_
    refine lv_iconst (v := 0) hx hb dL_setting_15 (by decide) ?_
    exact W.iret hx hb hr (fun t ht hW => ⟨⟨0, H1, rfl, ⟨h9, Or.inl ⟨h9, hD, _, pk_uLs, hL⟩⟩, ht⟩, hS.F ht⟩) hS.2.2 dL_setting_16

set_option maxHeartbeats 600000 in
set_option maxRecDepth 100000 in
theorem c_L_ifSpeed (l : Launch) (hl9 : l.stackTraces = false) (D : va_G) (G : Nat → ClassId) (α : Nat → Nat) (R RS : Nat → Int32) (kp : Int32) (sv : Nat → Nat → Int32) (n : Nat) (F : Nat → Int32) (len : Nat) (oo : Nat → Int64) (i v q : Int32) (H : Heap) (hα : inj 115 α) (hD0 : DW D G α R RS kp sv n F len H) (hL : va_at D vwCl (α 114, .inl (G 4, 1, .inr (.inl oo))) H) (hg : gd R) (hn6 : n ≤ 6) (hl6 : len ≤ 60) : Met l yL_ifSpeed wsL_ifSpeed ({ frames := 8, cells := 3, slots := 18, locals := 135 } : Room) (va_Pc [.ref (α 0), .int i, .int v, .int q, .ref (α 114)] (CL D G (AL α) H)) (QI (AL α) (fun r h => cIf i v q = r ∧ ((cIf i v q = 0 ∧ DW D G α R RS kp sv n F len h ∧ ∃ o2 : Nat → Int64, o2 0 = Int32.toInt64 (tif R (ix i) v q) ∧ va_at D vwCl (α 114, .inl (G 4, 1, .inr (.inl o2))) h) ∨ (¬ cIf i v q = 0 ∧ DW D G α R RS kp sv n F len h ∧ va_at D vwCl (α 114, .inl (G 4, 1, .inr (.inl oo))) h)))) 3 18 (AL α) := by
  refine dp_ofWH (cc := cL_ifSpeed) (maxL := 6) (ret := (some .int)) (by decide) rfl ?_
  intro p e s m args below meth c s₁ B0 hml hv
  obtain ⟨rfl, ⟨rfl, hK, hN⟩, hE, hZ, hC⟩ := hv
  have hx := B0.exec
  have hb := B0.bytes
  have hr := B0.returns
  have hts := atoms_spec (ws := wsL_ifSpeed) B0.pre
  have htab := vx_table (x := yL_ifSpeed) B0 (hts (.codeWith yL_ifSpeed cL_ifSpeed 6 (some .int) [(0, 12, 15, 13), (0, 12, 19, 15)]) (List.mem_of_getElem? (i := 0) rfl))
  have hown : s.vm.findClass RL = some m.cls := findClass_of_methodNamed B0.named
  have hlocks := B0.notSynchronized
  have hF : CallFix p m c cL_ifSpeed 6 s ([.ref (α 0), .int i, .int v, .int q, .ref (α 114)] : List Value).toArray wsL_ifSpeed RL := ⟨hx, hb, hml, hown, hts⟩
  have hS : va_S (AL α) s.heap s.heap [] := va_S.rf
  have hl := lv_entry ([.ref (α 0), .int i, .int v, .int q, .ref (α 114)]) (n := 6) (Nat.le_of_ble_eq_true rfl)
  rw [lg_entry_eq]
  generalize (lg_sl ([.ref (α 0), .int i, .int v, .int q, .ref (α 114)]) ++ List.replicate (6 - (lg_sl ([.ref (α 0), .int i, .int v, .int q, .ref (α 114)])).length) Slot.unset).toArray = ls at hl ⊢
  have hl : lv_has ls 6 [(0, .ref (α 0)), (1, .int i), (2, .int v), (3, .int q), (4, .ref (α 114))] := hl
  obtain ⟨w, RT, hw, hD⟩ := hD0
  refine lv_aload hx hb dL_ifSpeed_0 (lv_at hl 4 rfl) ?_
  refine lv_iconst (v := 0) hx hb dL_ifSpeed_2 (by decide) ?_
  refine lv_aload_n hx hb dL_ifSpeed_3 rfl (lv_at hl 0 rfl) ?_
  refine lv_iload_n hx hb dL_ifSpeed_4 rfl (lv_at hl 1 rfl) ?_
  refine lv_iload_n hx hb dL_ifSpeed_5 rfl (lv_at hl 2 rfl) ?_
  refine lv_iload_n hx hb dL_ifSpeed_6 rfl (lv_at hl 3 rfl) ?_
  refine dpc_Vi hF hK hN hE hZ (c_X5_ifSpeed l hl9 D G α w R RT RS kp sv n F len i v q _ hα hw hD (gd_bz hg) (gd_mono hg) hn6 hl6 (fun h => cIf_m hg h)) (cwV 3 hts gL_ifSpeed_X5_ifSpeed rfl rfl rfl (by decide +kernel) ⟨Nat.le_of_ble_eq_true rfl, Nat.le_of_ble_eq_true rfl⟩) (dp_recv hK hD.1 rfl) hS (fun q hq => Or.inl hq) [.int 0, .ref (α 114)] rfl rfl hl.1 (Nat.le_of_ble_eq_true rfl) dL_ifSpeed_7 ⟨Nat.le_of_ble_eq_true rfl, Nat.le_of_ble_eq_true rfl⟩ (fun E ce q9 HX locs hX hzX hkX hS hce hcv hcl => ?_) (fun rH HN locs hp hzN hkN hS => ?_)
  · have hD0 := DW.all ⟨w, RT, hw, hD⟩ (fun k _ hk9 => hkX _ hk9)
    have hL := hL.kept (hkX _ hL.lt)
    rcases hX with ⟨rfl, h9⟩ | ⟨rfl, h9⟩
    · refine vx_catch (name := xI) hown (tableOf []) ⟨0, 12, 15, 13⟩ (tableOf [(0, 12, 19, 15)]) (htab.trans rfl) (fun z hz => by cases hz) (by decide) (by decide) (hts (.classLink RL 13 "java/lang/IndexOutOfBoundsException") (List.mem_of_getElem? (i := 1) rfl)) (va_Nw.use rfl hE.1.2.2.2.2.1) hce hcv hcl ?_
      refine lv_astore (lv' := [(5, .ref q9), (0, .ref (α 0)), (1, .int i), (2, .int v), (3, .int q), (4, .ref (α 114))]) hx hb dL_ifSpeed_15 hl (by decide) rfl (fun ls hl => ?_)
      refine lv_iconst (v := 1) hx hb dL_ifSpeed_17 (by decide) ?_
      exact W.iret hx hb hr (fun t ht hW => ⟨⟨1, HX, rfl, ⟨h9, Or.inr ⟨by rw [h9]; decide, hD0, hL⟩⟩, ht⟩, hS.F ht⟩) hS.2.2 dL_ifSpeed_18
    · refine vx_catch (name := xA) hown (tableOf [(0, 12, 15, 13)]) ⟨0, 12, 19, 15⟩ (tableOf []) (htab.trans rfl) (fun z hz => by obtain rfl := List.mem_singleton.mp hz; exact Or.inr ⟨by decide, xI, (hts (.classLink RL 13 "java/lang/IndexOutOfBoundsException") (List.mem_of_getElem? (i := 1) rfl)), hC.1⟩) (by decide) (by decide) (hts (.classLink RL 15 "java/lang/IllegalArgumentException") (List.mem_of_getElem? (i := 2) rfl)) (va_Nw.use rfl hE.1.2.2.2.2.2) hce hcv hcl ?_
      refine lv_astore (lv' := [(5, .ref q9), (0, .ref (α 0)), (1, .int i), (2, .int v), (3, .int q), (4, .ref (α 114))]) hx hb dL_ifSpeed_19 hl (by decide) rfl (fun ls hl => ?_)
      refine lv_iconst (v := 2) hx hb dL_ifSpeed_21 (by decide) ?_
      exact W.iret hx hb hr (fun t ht hW => ⟨⟨2, HX, rfl, ⟨h9, Or.inr ⟨by rw [h9]; decide, hD0, hL⟩⟩, ht⟩, hS.F ht⟩) hS.2.2 dL_ifSpeed_22
  · obtain ⟨h9, rfl, hD⟩ := hp
    have hL := hL.kept (hkN _ hL.lt (A5_114 hα))
    refine lv_i2l hx hb dL_ifSpeed_10 rfl ?_
    refine dp_last (A := AL α) hx hb hK hL (Or.inr rfl) hS 4 rfl 0 rfl (by decide) (by decide) dL_ifSpeed_11 (fun H1 locs hL hzH1 hkH1 hS => ?_)
    have hD := DW.all hD (fun k hk9 _ => hkH1 _ (a114 hα hk9))
    refine lv_goto (tgt := 23) hx hb dL_ifSpeed_12 (by decide) ?_
    refine lv_iconst (v := 0) hx hb dL_ifSpeed_23 (by decide) ?_
    exact W.iret hx hb hr (fun t ht hW => ⟨⟨0, H1, rfl, ⟨h9, Or.inl ⟨h9, hD, _, pk_uLs, hL⟩⟩, ht⟩, hS.F ht⟩) hS.2.2 dL_ifSpeed_24

set_option maxHeartbeats 600000 in
set_option maxRecDepth 100000 in
theorem c_L_closeIn (l : Launch) (hl9 : l.stackTraces = false) (D : va_G) (G : Nat → ClassId) (α : Nat → Nat) (R RS : Nat → Int32) (kp : Int32) (sv : Nat → Nat → Int32) (n : Nat) (F : Nat → Int32) (len : Nat) (oo : Nat → Int64) (i : Int32) (H : Heap) (hα : inj 115 α) (hD0 : DW D G α R RS kp sv n F len H) (hL : va_at D vwCl (α 114, .inl (G 4, 1, .inr (.inl oo))) H) (hg : gd R) (hn6 : n ≤ 6) (hl6 : len ≤ 60) : Met l yL_closeIn wsL_closeIn ({ frames := 8, cells := 1, slots := 6, locals := 135 } : Room) (va_Pc [.ref (α 0), .int i, .ref (α 114)] (CL D G (AL α) H)) (QI (AL α) (fun r h => cOne i = r ∧ ((cOne i = 0 ∧ DW D G α R RS kp sv n F len h ∧ ∃ o2 : Nat → Int64, o2 0 = Int32.toInt64 (cin R (ix i)) ∧ va_at D vwCl (α 114, .inl (G 4, 1, .inr (.inl o2))) h) ∨ (¬ cOne i = 0 ∧ DW D G α R RS kp sv n F len h ∧ va_at D vwCl (α 114, .inl (G 4, 1, .inr (.inl oo))) h)))) 1 6 (AL α) := by
  refine dp_ofWH (cc := cL_closeIn) (maxL := 4) (ret := (some .int)) (by decide) rfl ?_
  intro p e s m args below meth c s₁ B0 hml hv
  obtain ⟨rfl, ⟨rfl, hK, hN⟩, hE, hZ, hC⟩ := hv
  have hx := B0.exec
  have hb := B0.bytes
  have hr := B0.returns
  have hts := atoms_spec (ws := wsL_closeIn) B0.pre
  have htab := vx_table (x := yL_closeIn) B0 (hts (.codeWith yL_closeIn cL_closeIn 4 (some .int) [(0, 9, 12, 13)]) (List.mem_of_getElem? (i := 0) rfl))
  have hown : s.vm.findClass RL = some m.cls := findClass_of_methodNamed B0.named
  have hlocks := B0.notSynchronized
  have hF : CallFix p m c cL_closeIn 4 s ([.ref (α 0), .int i, .ref (α 114)] : List Value).toArray wsL_closeIn RL := ⟨hx, hb, hml, hown, hts⟩
  have hS : va_S (AL α) s.heap s.heap [] := va_S.rf
  have hl := lv_entry ([.ref (α 0), .int i, .ref (α 114)]) (n := 4) (Nat.le_of_ble_eq_true rfl)
  rw [lg_entry_eq]
  generalize (lg_sl ([.ref (α 0), .int i, .ref (α 114)]) ++ List.replicate (4 - (lg_sl ([.ref (α 0), .int i, .ref (α 114)])).length) Slot.unset).toArray = ls at hl ⊢
  have hl : lv_has ls 4 [(0, .ref (α 0)), (1, .int i), (2, .ref (α 114))] := hl
  obtain ⟨w, RT, hw, hD⟩ := hD0
  refine lv_aload_n hx hb dL_closeIn_0 rfl (lv_at hl 2 rfl) ?_
  refine lv_iconst (v := 0) hx hb dL_closeIn_1 (by decide) ?_
  refine lv_aload_n hx hb dL_closeIn_2 rfl (lv_at hl 0 rfl) ?_
  refine lv_iload_n hx hb dL_closeIn_3 rfl (lv_at hl 1 rfl) ?_
  refine dpc_Vi hF hK hN hE hZ (c_X5_closeIn l hl9 D G α w R RT RS kp sv n F len i _ hα hw hD (gd_bz hg) (gd_mono hg) hn6 hl6 (fun k _ => gd_mono (gd_pt hg k))) (cwV 1 hts gL_closeIn_X5_closeIn rfl rfl rfl (by decide +kernel) ⟨Nat.le_of_ble_eq_true rfl, Nat.le_of_ble_eq_true rfl⟩) (dp_recv hK hD.1 rfl) hS (fun q hq => Or.inl hq) [.int 0, .ref (α 114)] rfl rfl hl.1 (Nat.le_of_ble_eq_true rfl) dL_closeIn_4 ⟨Nat.le_of_ble_eq_true rfl, Nat.le_of_ble_eq_true rfl⟩ (fun E ce q9 HX locs hX hzX hkX hS hce hcv hcl => ?_) (fun rH HN locs hp hzN hkN hS => ?_)
  · have hD0 := DW.all ⟨w, RT, hw, hD⟩ (fun k _ hk9 => hkX _ hk9)
    have hL := hL.kept (hkX _ hL.lt)
    obtain ⟨rfl, h9⟩ := hX
    refine vx_catch (name := xI) hown (tableOf []) ⟨0, 9, 12, 13⟩ (tableOf []) (htab.trans rfl) (fun z hz => by cases hz) (by decide) (by decide) (hts (.classLink RL 13 "java/lang/IndexOutOfBoundsException") (List.mem_of_getElem? (i := 1) rfl)) (va_Nw.use rfl hE.1.2.2.2.2.1) hce hcv hcl ?_
    refine lv_astore_n (lv' := [(3, .ref q9), (0, .ref (α 0)), (1, .int i), (2, .ref (α 114))]) hx hb dL_closeIn_12 rfl hl (by decide) rfl (fun ls hl => ?_)
    refine lv_iconst (v := 1) hx hb dL_closeIn_13 (by decide) ?_
    exact W.iret hx hb hr (fun t ht hW => ⟨⟨1, HX, rfl, ⟨h9, Or.inr ⟨by rw [h9]; decide, hD0, hL⟩⟩, ht⟩, hS.F ht⟩) hS.2.2 dL_closeIn_14
  · obtain ⟨h9, rfl, hD⟩ := hp
    have hL := hL.kept (hkN _ hL.lt (A5_114 hα))
    refine lv_i2l hx hb dL_closeIn_7 rfl ?_
    refine dp_last (A := AL α) hx hb hK hL (Or.inr rfl) hS 4 rfl 0 rfl (by decide) (by decide) dL_closeIn_8 (fun H1 locs hL hzH1 hkH1 hS => ?_)
    have hD := DW.all hD (fun k hk9 _ => hkH1 _ (a114 hα hk9))
    refine lv_goto (tgt := 15) hx hb dL_closeIn_9 (by decide) ?_
    refine lv_iconst (v := 0) hx hb dL_closeIn_15 (by decide) ?_
    exact W.iret hx hb hr (fun t ht hW => ⟨⟨0, H1, rfl, ⟨h9, Or.inl ⟨h9, hD, _, pk_uLs, hL⟩⟩, ht⟩, hS.F ht⟩) hS.2.2 dL_closeIn_16

set_option maxHeartbeats 600000 in
set_option maxRecDepth 100000 in
theorem c_L_fairSpeed (l : Launch) (hl9 : l.stackTraces = false) (D : va_G) (G : Nat → ClassId) (α : Nat → Nat) (R RS : Nat → Int32) (kp : Int32) (sv : Nat → Nat → Int32) (n : Nat) (F : Nat → Int32) (len : Nat) (oo : Nat → Int64) (i : Int32) (H : Heap) (hα : inj 115 α) (hD0 : DW D G α R RS kp sv n F len H) (hL : va_at D vwCl (α 114, .inl (G 4, 1, .inr (.inl oo))) H) (hg : gd R) (hn6 : n ≤ 6) (hl6 : len ≤ 60) : Met l yL_fairSpeed wsL_fairSpeed ({ frames := 8, cells := 1, slots := 6, locals := 133 } : Room) (va_Pc [.ref (α 0), .int i, .ref (α 114)] (CL D G (AL α) H)) (QI (AL α) (fun r h => cOne i = r ∧ ((cOne i = 0 ∧ DW D G α R RS kp sv n F len h ∧ ∃ o2 : Nat → Int64, o2 0 = Int32.toInt64 (fair R (ix i)) ∧ va_at D vwCl (α 114, .inl (G 4, 1, .inr (.inl o2))) h) ∨ (¬ cOne i = 0 ∧ DW D G α R RS kp sv n F len h ∧ va_at D vwCl (α 114, .inl (G 4, 1, .inr (.inl oo))) h)))) 1 6 (AL α) := by
  refine dp_ofWH (cc := cL_fairSpeed) (maxL := 4) (ret := (some .int)) (by decide) rfl ?_
  intro p e s m args below meth c s₁ B0 hml hv
  obtain ⟨rfl, ⟨rfl, hK, hN⟩, hE, hZ, hC⟩ := hv
  have hx := B0.exec
  have hb := B0.bytes
  have hr := B0.returns
  have hts := atoms_spec (ws := wsL_fairSpeed) B0.pre
  have htab := vx_table (x := yL_fairSpeed) B0 (hts (.codeWith yL_fairSpeed cL_fairSpeed 4 (some .int) [(0, 9, 12, 13)]) (List.mem_of_getElem? (i := 0) rfl))
  have hown : s.vm.findClass RL = some m.cls := findClass_of_methodNamed B0.named
  have hlocks := B0.notSynchronized
  have hF : CallFix p m c cL_fairSpeed 4 s ([.ref (α 0), .int i, .ref (α 114)] : List Value).toArray wsL_fairSpeed RL := ⟨hx, hb, hml, hown, hts⟩
  have hS : va_S (AL α) s.heap s.heap [] := va_S.rf
  have hl := lv_entry ([.ref (α 0), .int i, .ref (α 114)]) (n := 4) (Nat.le_of_ble_eq_true rfl)
  rw [lg_entry_eq]
  generalize (lg_sl ([.ref (α 0), .int i, .ref (α 114)]) ++ List.replicate (4 - (lg_sl ([.ref (α 0), .int i, .ref (α 114)])).length) Slot.unset).toArray = ls at hl ⊢
  have hl : lv_has ls 4 [(0, .ref (α 0)), (1, .int i), (2, .ref (α 114))] := hl
  obtain ⟨w, RT, hw, hD⟩ := hD0
  refine lv_aload_n hx hb dL_fairSpeed_0 rfl (lv_at hl 2 rfl) ?_
  refine lv_iconst (v := 0) hx hb dL_fairSpeed_1 (by decide) ?_
  refine lv_aload_n hx hb dL_fairSpeed_2 rfl (lv_at hl 0 rfl) ?_
  refine lv_iload_n hx hb dL_fairSpeed_3 rfl (lv_at hl 1 rfl) ?_
  refine dpc_Vi hF hK hN hE hZ (c_X5_fairSpeed l hl9 D G α w R RT RS kp sv n F len i _ hα hw hD (gd_bz hg) (gd_mono hg) hn6 hl6 (fun k hk => mono_us hg hk)) (cwV 1 hts gL_fairSpeed_X5_fairSpeed rfl rfl rfl (by decide +kernel) ⟨Nat.le_of_ble_eq_true rfl, Nat.le_of_ble_eq_true rfl⟩) (dp_recv hK hD.1 rfl) hS (fun q hq => Or.inl hq) [.int 0, .ref (α 114)] rfl rfl hl.1 (Nat.le_of_ble_eq_true rfl) dL_fairSpeed_4 ⟨Nat.le_of_ble_eq_true rfl, Nat.le_of_ble_eq_true rfl⟩ (fun E ce q9 HX locs hX hzX hkX hS hce hcv hcl => ?_) (fun rH HN locs hp hzN hkN hS => ?_)
  · have hD0 := DW.all ⟨w, RT, hw, hD⟩ (fun k _ hk9 => hkX _ hk9)
    have hL := hL.kept (hkX _ hL.lt)
    obtain ⟨rfl, h9⟩ := hX
    refine vx_catch (name := xI) hown (tableOf []) ⟨0, 9, 12, 13⟩ (tableOf []) (htab.trans rfl) (fun z hz => by cases hz) (by decide) (by decide) (hts (.classLink RL 13 "java/lang/IndexOutOfBoundsException") (List.mem_of_getElem? (i := 1) rfl)) (va_Nw.use rfl hE.1.2.2.2.2.1) hce hcv hcl ?_
    refine lv_astore_n (lv' := [(3, .ref q9), (0, .ref (α 0)), (1, .int i), (2, .ref (α 114))]) hx hb dL_fairSpeed_12 rfl hl (by decide) rfl (fun ls hl => ?_)
    refine lv_iconst (v := 1) hx hb dL_fairSpeed_13 (by decide) ?_
    exact W.iret hx hb hr (fun t ht hW => ⟨⟨1, HX, rfl, ⟨h9, Or.inr ⟨by rw [h9]; decide, hD0, hL⟩⟩, ht⟩, hS.F ht⟩) hS.2.2 dL_fairSpeed_14
  · obtain ⟨h9, rfl, hD⟩ := hp
    have hL := hL.kept (hkN _ hL.lt (A5_114 hα))
    refine lv_i2l hx hb dL_fairSpeed_7 rfl ?_
    refine dp_last (A := AL α) hx hb hK hL (Or.inr rfl) hS 4 rfl 0 rfl (by decide) (by decide) dL_fairSpeed_8 (fun H1 locs hL hzH1 hkH1 hS => ?_)
    have hD := DW.all hD (fun k hk9 _ => hkH1 _ (a114 hα hk9))
    refine lv_goto (tgt := 15) hx hb dL_fairSpeed_9 (by decide) ?_
    refine lv_iconst (v := 0) hx hb dL_fairSpeed_15 (by decide) ?_
    exact W.iret hx hb hr (fun t ht hW => ⟨⟨0, H1, rfl, ⟨h9, Or.inl ⟨h9, hD, _, pk_uLs, hL⟩⟩, ht⟩, hS.F ht⟩) hS.2.2 dL_fairSpeed_16
