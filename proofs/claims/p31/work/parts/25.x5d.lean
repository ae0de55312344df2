set_option maxHeartbeats 600000 in
set_option maxRecDepth 100000 in
theorem c_X5_diesel (l : Launch) (hl9 : l.stackTraces = false) (D : va_G) (G : Nat → ClassId) (α : Nat → Nat) (w : Nat → Nat) (R RT RS : Nat → Int32) (kp : Int32) (sv : Nat → Nat → Int32) (n : Nat) (F : Nat → Int32) (len : Nat) (i q : Int32) (H : Heap) (hα : inj 115 α) (hw : pm w) (hD : DP D G α w R RT RS kp sv n F len H) (hbz : bz R) (hm : mono R) (hn6 : n ≤ 6) (hl6 : len ≤ 60) : vx_Met l yX5_diesel wsX5_diesel ({ frames := 7, cells := 2, slots := 12, locals := 114 } : Room) (va_Pc [.ref (α 0), .int i, .int q] (CE D G (A5 α) H)) (QI (A5 α) (fun r h => cLook i q 12 = 0 ∧ tset R (ix i) q = r ∧ DW D G α R RS kp sv n F len h)) (XX (fun E => (E = xI ∧ cLook i q 12 = 1) ∨ (E = xA ∧ cLook i q 12 = 2))) 2 12 (A5 α) := by
  refine vx_ofW (cc := cX5_diesel) (maxL := 3) (ret := (some .int)) (by decide) rfl ?_
  intro p e s m args below meth c s₁ B0 hml ht9 hv
  obtain ⟨rfl, ⟨rfl, hK, hN⟩, hE, hZ⟩ := hv
  have hx := B0.exec
  have hb := B0.bytes
  have hr := B0.returns
  have hts := atoms_spec (ws := wsX5_diesel) B0.pre
  have hown : s.vm.findClass RX5 = some m.cls := findClass_of_methodNamed B0.named
  have hlocks := B0.notSynchronized
  have hF : CallFix p m c cX5_diesel 3 s ([.ref (α 0), .int i, .int q] : List Value).toArray wsX5_diesel RX5 := ⟨hx, hb, hml, hown, hts⟩
  have hS : va_S (A5 α) s.heap s.heap [] := va_S.rf
  have hl := lv_entry ([.ref (α 0), .int i, .int q]) (n := 3) (Nat.le_of_ble_eq_true rfl)
  rw [lg_entry_eq]
  generalize (lg_sl ([.ref (α 0), .int i, .int q]) ++ List.replicate (3 - (lg_sl ([.ref (α 0), .int i, .int q])).length) Slot.unset).toArray = ls at hl ⊢
  have hl : lv_has ls 3 [(0, .ref (α 0)), (1, .int i), (2, .int q)] := hl
  refine lv_iload_n hx hb dX5_diesel_0 rfl (lv_at hl 1 rfl) ?_
  refine dpx_Sv hF hK hN hE hZ ht9 hlocks (c_X5_needSet l hl9 D G i _) (va_cwS 1 hts gX5_diesel_X5_needSet rfl rfl rfl (by decide +kernel) ⟨Nat.le_of_ble_eq_true rfl, Nat.le_of_ble_eq_true rfl⟩) hS [] rfl rfl hl.1 (Nat.le_of_ble_eq_true rfl) dX5_diesel_1 ⟨Nat.le_of_ble_eq_true rfl, Nat.le_of_ble_eq_true rfl⟩ (fun E h => Or.inl ⟨h.1, by simp [cLook, nS_bad h.2]⟩) (fun H1 h q hq _ => h q hq) ⟨Nat.le_of_ble_eq_true rfl, Nat.le_of_ble_eq_true rfl⟩ (fun H1 locs hp _ _ hS => ?_)
  obtain ⟨rfl, j, hj, rfl⟩ := hp
  have hix : ix (nI j) = j := ix_nI (by omega)
  refine lv_iload_n hx hb dX5_diesel_4 rfl (lv_at hl 2 rfl) ?_
  refine lv_iconst (v := 0) hx hb dX5_diesel_5 (by decide) ?_
  refine lv_bipush (v := 12) hx hb dX5_diesel_6 (by decide) ?_
  refine dpx_Sv hF hK hN hE hZ ht9 hlocks (c_X5_needRange l hl9 D G q 0 12 _) (va_cwS 3 hts gX5_diesel_X5_needRange rfl rfl rfl (by decide +kernel) ⟨Nat.le_of_ble_eq_true rfl, Nat.le_of_ble_eq_true rfl⟩) hS [] rfl rfl hl.1 (Nat.le_of_ble_eq_true rfl) dX5_diesel_8 ⟨Nat.le_of_ble_eq_true rfl, Nat.le_of_ble_eq_true rfl⟩ (fun E h => Or.inr ⟨h.1, by simp [cLook, nS_ok hj, hix, nR_bad h.2]⟩) (fun H1 h q hq _ => h q hq) ⟨Nat.le_of_ble_eq_true rfl, Nat.le_of_ble_eq_true rfl⟩ (fun H2 locs hp _ _ hS => ?_)
  obtain ⟨rfl, hr2⟩ := hp
  refine lv_aload_n hx hb dX5_diesel_11 rfl (lv_at hl 0 rfl) ?_
  refine lv_iload_n hx hb dX5_diesel_12 rfl (lv_at hl 1 rfl) ?_
  refine lv_iload_n hx hb dX5_diesel_13 rfl (lv_at hl 2 rfl) ?_
  refine dp_Vi hF hK hN (c_X5_tellOfSet l D G α w R RT RS kp sv n F len j q _ hα hw hD hbz hm hn6 hl6 hj) (cwV 2 hts gX5_diesel_X5_tellOfSet rfl rfl rfl (by decide +kernel) ⟨Nat.le_of_ble_eq_true rfl, Nat.le_of_ble_eq_true rfl⟩) (dp_recv hK hD.1 rfl) hS nA_i [] rfl rfl hl.1 (Nat.le_of_ble_eq_true rfl) dX5_diesel_14 ⟨Nat.le_of_ble_eq_true rfl, Nat.le_of_ble_eq_true rfl⟩ (fun rH3 H3 locs hp hzH3 hkH3 hS => ?_)
  obtain ⟨rfl, rfl⟩ := hp
  refine W.widen (k := 2) (n := 12) (Nat.le_of_ble_eq_true rfl) (Nat.le_of_ble_eq_true rfl) ?_
  refine vx_ret ?_
  exact W.iret hx hb hr (fun t ht hW => ⟨⟨tset R j q, s.heap, rfl, ⟨by simp [cLook, nS_ok hj, hix, nR_ok hr2], by rw [hix], ⟨w, _, hw, hD⟩⟩, ht⟩, hS.F ht⟩) hS.2.2 dX5_diesel_17

set_option maxHeartbeats 600000 in
set_option maxRecDepth 100000 in
theorem c_X5_line (l : Launch) (hl9 : l.stackTraces = false) (D : va_G) (G : Nat → ClassId) (α : Nat → Nat) (w : Nat → Nat) (R RT RS : Nat → Int32) (kp : Int32) (sv : Nat → Nat → Int32) (n : Nat) (F : Nat → Int32) (len : Nat) (i q : Int32) (H : Heap) (hα : inj 115 α) (hw : pm w) (hD : DP D G α w R RT RS kp sv n F len H) (hbz : bz R) (hm : mono R) (hn6 : n ≤ 6) (hl6 : len ≤ 60) : vx_Met l yX5_line wsX5_line ({ frames := 7, cells := 2, slots := 12, locals := 112 } : Room) (va_Pc [.ref (α 0), .int i, .int q] (CE D G (A5 α) H)) (QI (A5 α) (fun r h => cLine i q = 0 ∧ tfee R (ix i) q = r ∧ DW D G α R RS kp sv n F len h)) (XX (fun E => (E = xI ∧ cLine i q = 1) ∨ (E = xA ∧ cLine i q = 2))) 2 12 (A5 α) := by
  refine vx_ofW (cc := cX5_line) (maxL := 3) (ret := (some .int)) (by decide) rfl ?_
  intro p e s m args below meth c s₁ B0 hml ht9 hv
  obtain ⟨rfl, ⟨rfl, hK, hN⟩, hE, hZ⟩ := hv
  have hx := B0.exec
  have hb := B0.bytes
  have hr := B0.returns
  have hts := atoms_spec (ws := wsX5_line) B0.pre
  have hown : s.vm.findClass RX5 = some m.cls := findClass_of_methodNamed B0.named
  have hlocks := B0.notSynchronized
  have hF : CallFix p m c cX5_line 3 s ([.ref (α 0), .int i, .int q] : List Value).toArray wsX5_line RX5 := ⟨hx, hb, hml, hown, hts⟩
  have hS : va_S (A5 α) s.heap s.heap [] := va_S.rf
  have hl := lv_entry ([.ref (α 0), .int i, .int q]) (n := 3) (Nat.le_of_ble_eq_true rfl)
  rw [lg_entry_eq]
  generalize (lg_sl ([.ref (α 0), .int i, .int q]) ++ List.replicate (3 - (lg_sl ([.ref (α 0), .int i, .int q])).length) Slot.unset).toArray = ls at hl ⊢
  have hl : lv_has ls 3 [(0, .ref (α 0)), (1, .int i), (2, .int q)] := hl
  refine lv_iload_n hx hb dX5_line_0 rfl (lv_at hl 1 rfl) ?_
  refine dpx_Sv hF hK hN hE hZ ht9 hlocks (c_X5_needFeeder l hl9 D G i _) (va_cwS 1 hts gX5_line_X5_needFeeder rfl rfl rfl (by decide +kernel) ⟨Nat.le_of_ble_eq_true rfl, Nat.le_of_ble_eq_true rfl⟩) hS [] rfl rfl hl.1 (Nat.le_of_ble_eq_true rfl) dX5_line_1 ⟨Nat.le_of_ble_eq_true rfl, Nat.le_of_ble_eq_true rfl⟩ (fun E h => Or.inl ⟨h.1, by simp [cLine, nF_bad h.2]⟩) (fun H1 h q hq _ => h q hq) ⟨Nat.le_of_ble_eq_true rfl, Nat.le_of_ble_eq_true rfl⟩ (fun H1 locs hp _ _ hS => ?_)
  obtain ⟨rfl, j, hj, rfl⟩ := hp
  have hix : ix (nI j) = j := ix_nI (by omega)
  refine lv_iload_n hx hb dX5_line_4 rfl (lv_at hl 2 rfl) ?_
  refine lv_iconst (v := 0) hx hb dX5_line_5 (by decide) ?_
  refine lv_iconst (v := 2) hx hb dX5_line_6 (by decide) ?_
  refine dpx_Sv hF hK hN hE hZ ht9 hlocks (c_X5_needRange l hl9 D G q 0 2 _) (va_cwS 3 hts gX5_line_X5_needRange rfl rfl rfl (by decide +kernel) ⟨Nat.le_of_ble_eq_true rfl, Nat.le_of_ble_eq_true rfl⟩) hS [] rfl rfl hl.1 (Nat.le_of_ble_eq_true rfl) dX5_line_7 ⟨Nat.le_of_ble_eq_true rfl, Nat.le_of_ble_eq_true rfl⟩ (fun E h => Or.inr ⟨h.1, by simp [cLine, nF_ok hj, hix, nR_bad h.2]⟩) (fun H1 h q hq _ => h q hq) ⟨Nat.le_of_ble_eq_true rfl, Nat.le_of_ble_eq_true rfl⟩ (fun H2 locs hp _ _ hS => ?_)
  obtain ⟨rfl, hr2⟩ := hp
  refine lv_aload_n hx hb dX5_line_10 rfl (lv_at hl 0 rfl) ?_
  refine lv_iload_n hx hb dX5_line_11 rfl (lv_at hl 1 rfl) ?_
  refine lv_iload_n hx hb dX5_line_12 rfl (lv_at hl 2 rfl) ?_
  refine dp_Vi hF hK hN (c_X5_tellOfFeeder l D G α w R RT RS kp sv n F len j q _ hα hw hD hbz hm hn6 hl6 hj) (cwV 2 hts gX5_line_X5_tellOfFeeder rfl rfl rfl (by decide +kernel) ⟨Nat.le_of_ble_eq_true rfl, Nat.le_of_ble_eq_true rfl⟩) (dp_recv hK hD.1 rfl) hS nA_i [] rfl rfl hl.1 (Nat.le_of_ble_eq_true rfl) dX5_line_13 ⟨Nat.le_of_ble_eq_true rfl, Nat.le_of_ble_eq_true rfl⟩ (fun rH3 H3 locs hp hzH3 hkH3 hS => ?_)
  obtain ⟨rfl, rfl⟩ := hp
  refine W.widen (k := 2) (n := 12) (Nat.le_of_ble_eq_true rfl) (Nat.le_of_ble_eq_true rfl) ?_
  refine vx_ret ?_
  exact W.iret hx hb hr (fun t ht hW => ⟨⟨tfee R j q, s.heap, rfl, ⟨by simp [cLine, nF_ok hj, hix, nR_ok hr2], by rw [hix], ⟨w, _, hw, hD⟩⟩, ht⟩, hS.F ht⟩) hS.2.2 dX5_line_16

set_option maxHeartbeats 600000 in
set_option maxRecDepth 100000 in
theorem c_X5_count (l : Launch) (hl9 : l.stackTraces = false) (D : va_G) (G : Nat → ClassId) (α : Nat → Nat) (w : Nat → Nat) (R RT RS : Nat → Int32) (kp : Int32) (sv : Nat → Nat → Int32) (n : Nat) (F : Nat → Int32) (len : Nat) (q : Int32) (H : Heap) (hα : inj 115 α) (hw : pm w) (hD : DP D G α w R RT RS kp sv n F len H) (hbz : bz R) (hm : mono R) (hn6 : n ≤ 6) (hl6 : len ≤ 60) : vx_Met l yX5_count wsX5_count ({ frames := 7, cells := 1, slots := 6, locals := 112 } : Room) (va_Pc [.ref (α 0), .int q] (CE D G (A5 α) H)) (QI (A5 α) (fun r h => cCount q = 0 ∧ tcnt R n q = r ∧ DW D G α R RS kp sv n F len h)) (XX (fun E => (E = xA ∧ cCount q = 1))) 1 6 (A5 α) := by
  refine vx_ofW (cc := cX5_count) (maxL := 2) (ret := (some .int)) (by decide) rfl ?_
  intro p e s m args below meth c s₁ B0 hml ht9 hv
  obtain ⟨rfl, ⟨rfl, hK, hN⟩, hE, hZ⟩ := hv
  have hx := B0.exec
  have hb := B0.bytes
  have hr := B0.returns
  have hts := atoms_spec (ws := wsX5_count) B0.pre
  have hown : s.vm.findClass RX5 = some m.cls := findClass_of_methodNamed B0.named
  have hlocks := B0.notSynchronized
  have hF : CallFix p m c cX5_count 2 s ([.ref (α 0), .int q] : List Value).toArray wsX5_count RX5 := ⟨hx, hb, hml, hown, hts⟩
  have hS : va_S (A5 α) s.heap s.heap [] := va_S.rf
  have hl := lv_entry ([.ref (α 0), .int q]) (n := 2) (Nat.le_of_ble_eq_true rfl)
  rw [lg_entry_eq]
  generalize (lg_sl ([.ref (α 0), .int q]) ++ List.replicate (2 - (lg_sl ([.ref (α 0), .int q])).length) Slot.unset).toArray = ls at hl ⊢
  have hl : lv_has ls 2 [(0, .ref (α 0)), (1, .int q)] := hl
  refine lv_iload_n hx hb dX5_count_0 rfl (lv_at hl 1 rfl) ?_
  refine lv_iconst (v := 0) hx hb dX5_count_1 (by decide) ?_
  refine lv_bipush (v := 11) hx hb dX5_count_2 (by decide) ?_
  refine dpx_Sv hF hK hN hE hZ ht9 hlocks (c_X5_needRange l hl9 D G q 0 11 _) (va_cwS 3 hts gX5_count_X5_needRange rfl rfl rfl (by decide +kernel) ⟨Nat.le_of_ble_eq_true rfl, Nat.le_of_ble_eq_true rfl⟩) hS [] rfl rfl hl.1 (Nat.le_of_ble_eq_true rfl) dX5_count_4 ⟨Nat.le_of_ble_eq_true rfl, Nat.le_of_ble_eq_true rfl⟩ (fun E h => ⟨h.1, by simp [cCount, nR_bad h.2]⟩) (fun H1 h q hq _ => h q hq) ⟨Nat.le_of_ble_eq_true rfl, Nat.le_of_ble_eq_true rfl⟩ (fun H1 locs hp _ _ hS => ?_)
  obtain ⟨rfl, hr1⟩ := hp
  refine lv_aload_n hx hb dX5_count_7 rfl (lv_at hl 0 rfl) ?_
  refine lv_iload_n hx hb dX5_count_8 rfl (lv_at hl 1 rfl) ?_
  refine dp_Vi hF hK hN (c_X5_tellCount l D G α w R RT RS kp sv n F len q _ hα hw hD hbz hm hn6 hl6 ) (cwV 1 hts gX5_count_X5_tellCount rfl rfl rfl (by decide +kernel) ⟨Nat.le_of_ble_eq_true rfl, Nat.le_of_ble_eq_true rfl⟩) (dp_recv hK hD.1 rfl) hS nA_i [] rfl rfl hl.1 (Nat.le_of_ble_eq_true rfl) dX5_count_9 ⟨Nat.le_of_ble_eq_true rfl, Nat.le_of_ble_eq_true rfl⟩ (fun rH2 H2 locs hp hzH2 hkH2 hS => ?_)
  obtain ⟨rfl, rfl⟩ := hp
  refine W.widen (k := 1) (n := 6) (Nat.le_of_ble_eq_true rfl) (Nat.le_of_ble_eq_true rfl) ?_
  refine vx_ret ?_
  exact W.iret hx hb hr (fun t ht hW => ⟨⟨tcnt R n q, s.heap, rfl, ⟨by simp [cCount, nR_ok hr1], rfl, ⟨w, _, hw, hD⟩⟩, ht⟩, hS.F ht⟩) hS.2.2 dX5_count_12

set_option maxHeartbeats 600000 in
set_option maxRecDepth 100000 in
theorem c_X5_closeIn (l : Launch) (hl9 : l.stackTraces = false) (D : va_G) (G : Nat → ClassId) (α : Nat → Nat) (w : Nat → Nat) (R RT RS : Nat → Int32) (kp : Int32) (sv : Nat → Nat → Int32) (n : Nat) (F : Nat → Int32) (len : Nat) (i : Int32) (H : Heap) (hα : inj 115 α) (hw : pm w) (hD : DP D G α w R RT RS kp sv n F len H) (hbz : bz R) (hm : mono R) (hn6 : n ≤ 6) (hl6 : len ≤ 60) (hmp : ∀ k, k ≤ 501 → mono (pt R k)) : vx_Met l yX5_closeIn wsX5_closeIn ({ frames := 7, cells := 1, slots := 6, locals := 114 } : Room) (va_Pc [.ref (α 0), .int i] (CE D G (A5 α) H)) (QI (A5 α) (fun r h => cOne i = 0 ∧ cin R (ix i) = r ∧ DW D G α R RS kp sv n F len h)) (XX (fun E => (E = xI ∧ cOne i = 1))) 1 6 (A5 α) := by
  refine vx_ofW (cc := cX5_closeIn) (maxL := 2) (ret := (some .int)) (by decide) rfl ?_
  intro p e s m args below meth c s₁ B0 hml ht9 hv
  obtain ⟨rfl, ⟨rfl, hK, hN⟩, hE, hZ⟩ := hv
  have hx := B0.exec
  have hb := B0.bytes
  have hr := B0.returns
  have hts := atoms_spec (ws := wsX5_closeIn) B0.pre
  have hown : s.vm.findClass RX5 = some m.cls := findClass_of_methodNamed B0.named
  have hlocks := B0.notSynchronized
  have hF : CallFix p m c cX5_closeIn 2 s ([.ref (α 0), .int i] : List Value).toArray wsX5_closeIn RX5 := ⟨hx, hb, hml, hown, hts⟩
  have hS : va_S (A5 α) s.heap s.heap [] := va_S.rf
  have hl := lv_entry ([.ref (α 0), .int i]) (n := 2) (Nat.le_of_ble_eq_true rfl)
  rw [lg_entry_eq]
  generalize (lg_sl ([.ref (α 0), .int i]) ++ List.replicate (2 - (lg_sl ([.ref (α 0), .int i])).length) Slot.unset).toArray = ls at hl ⊢
  have hl : lv_has ls 2 [(0, .ref (α 0)), (1, .int i)] := hl
  refine lv_iload_n hx hb dX5_closeIn_0 rfl (lv_at hl 1 rfl) ?_
  refine dpx_Sv hF hK hN hE hZ ht9 hlocks (c_X5_needSet l hl9 D G i _) (va_cwS 1 hts gX5_closeIn_X5_needSet rfl rfl rfl (by decide +kernel) ⟨Nat.le_of_ble_eq_true rfl, Nat.le_of_ble_eq_true rfl⟩) hS [] rfl rfl hl.1 (Nat.le_of_ble_eq_true rfl) dX5_closeIn_1 ⟨Nat.le_of_ble_eq_true rfl, Nat.le_of_ble_eq_true rfl⟩ (fun E h => ⟨h.1, by simp [cOne, nS_bad h.2]⟩) (fun H1 h q hq _ => h q hq) ⟨Nat.le_of_ble_eq_true rfl, Nat.le_of_ble_eq_true rfl⟩ (fun H1 locs hp _ _ hS => ?_)
  obtain ⟨rfl, j, hj, rfl⟩ := hp
  have hix : ix (nI j) = j := ix_nI (by omega)
  refine lv_aload_n hx hb dX5_closeIn_4 rfl (lv_at hl 0 rfl) ?_
  refine lv_iload_n hx hb dX5_closeIn_5 rfl (lv_at hl 1 rfl) ?_
  refine dp_Vi hF hK hN (c_X5_ticksUntilClosing l D G α w R RT RS kp sv n F len j _ hα hw hD hbz hm hn6 hl6 hj hmp) (cwV 1 hts gX5_closeIn_X5_ticksUntilClosing rfl rfl rfl (by decide +kernel) ⟨Nat.le_of_ble_eq_true rfl, Nat.le_of_ble_eq_true rfl⟩) (dp_recv hK hD.1 rfl) hS (fun q hq => hq) [] rfl rfl hl.1 (Nat.le_of_ble_eq_true rfl) dX5_closeIn_6 ⟨Nat.le_of_ble_eq_true rfl, Nat.le_of_ble_eq_true rfl⟩ (fun rH2 H2 locs hp hzH2 hkH2 hS => ?_)
  obtain ⟨rfl, w, RT, hw, hD⟩ := hp
  refine W.widen (k := 1) (n := 6) (Nat.le_of_ble_eq_true rfl) (Nat.le_of_ble_eq_true rfl) ?_
  refine vx_ret ?_
  exact W.iret hx hb hr (fun t ht hW => ⟨⟨cin R j, H2, rfl, ⟨by simp [cOne, nS_ok hj, hix], by rw [hix], ⟨w, _, hw, hD⟩⟩, ht⟩, hS.F ht⟩) hS.2.2 dX5_closeIn_9

set_option maxHeartbeats 600000 in
set_option maxRecDepth 100000 in
theorem c_X5_fairSpeed (l : Launch) (hl9 : l.stackTraces = false) (D : va_G) (G : Nat → ClassId) (α : Nat → Nat) (w : Nat → Nat) (R RT RS : Nat → Int32) (kp : Int32) (sv : Nat → Nat → Int32) (n : Nat) (F : Nat → Int32) (len : Nat) (i : Int32) (H : Heap) (hα : inj 115 α) (hw : pm w) (hD : DP D G α w R RT RS kp sv n F len H) (hbz : bz R) (hm : mono R) (hn6 : n ≤ 6) (hl6 : len ≤ 60) (hms : ∀ k, k ≤ 600 → mono (usp R (ix i) (nI (4700 + k)))) : vx_Met l yX5_fairSpeed wsX5_fairSpeed ({ frames := 7, cells := 1, slots := 6, locals := 112 } : Room) (va_Pc [.ref (α 0), .int i] (CE D G (A5 α) H)) (QI (A5 α) (fun r h => cOne i = 0 ∧ fair R (ix i) = r ∧ DW D G α R RS kp sv n F len h)) (XX (fun E => (E = xI ∧ cOne i = 1))) 1 6 (A5 α) := by
  refine vx_ofW (cc := cX5_fairSpeed) (maxL := 2) (ret := (some .int)) (by decide) rfl ?_
  intro p e s m args below meth c s₁ B0 hml ht9 hv
  obtain ⟨rfl, ⟨rfl, hK, hN⟩, hE, hZ⟩ := hv
  have hx := B0.exec
  have hb := B0.bytes
  have hr := B0.returns
  have hts := atoms_spec (ws := wsX5_fairSpeed) B0.pre
  have hown : s.vm.findClass RX5 = some m.cls := findClass_of_methodNamed B0.named
  have hlocks := B0.notSynchronized
  have hF : CallFix p m c cX5_fairSpeed 2 s ([.ref (α 0), .int i] : List Value).toArray wsX5_fairSpeed RX5 := ⟨hx, hb, hml, hown, hts⟩
  have hS : va_S (A5 α) s.heap s.heap [] := va_S.rf
  have hl := lv_entry ([.ref (α 0), .int i]) (n := 2) (Nat.le_of_ble_eq_true rfl)
  rw [lg_entry_eq]
  generalize (lg_sl ([.ref (α 0), .int i]) ++ List.replicate (2 - (lg_sl ([.ref (α 0), .int i])).length) Slot.unset).toArray = ls at hl ⊢
  have hl : lv_has ls 2 [(0, .ref (α 0)), (1, .int i)] := hl
  refine lv_iload_n hx hb dX5_fairSpeed_0 rfl (lv_at hl 1 rfl) ?_
  refine dpx_Sv hF hK hN hE hZ ht9 hlocks (c_X5_needSet l hl9 D G i _) (va_cwS 1 hts gX5_fairSpeed_X5_needSet rfl rfl rfl (by decide +kernel) ⟨Nat.le_of_ble_eq_true rfl, Nat.le_of_ble_eq_true rfl⟩) hS [] rfl rfl hl.1 (Nat.le_of_ble_eq_true rfl) dX5_fairSpeed_1 ⟨Nat.le_of_ble_eq_true rfl, Nat.le_of_ble_eq_true rfl⟩ (fun E h => ⟨h.1, by simp [cOne, nS_bad h.2]⟩) (fun H1 h q hq _ => h q hq) ⟨Nat.le_of_ble_eq_true rfl, Nat.le_of_ble_eq_true rfl⟩ (fun H1 locs hp _ _ hS => ?_)
  obtain ⟨rfl, j, hj, rfl⟩ := hp
  have hix : ix (nI j) = j := ix_nI (by omega)
  rw [hix] at hms
  refine lv_aload_n hx hb dX5_fairSpeed_4 rfl (lv_at hl 0 rfl) ?_
  refine lv_iload_n hx hb dX5_fairSpeed_5 rfl (lv_at hl 1 rfl) ?_
  refine dp_Vi hF hK hN (c_X5_speedForFairShare l D G α w R RT RS kp sv n F len j _ hα hw hD hbz hm hn6 hl6 hj hms) (cwV 1 hts gX5_fairSpeed_X5_speedForFairShare rfl rfl rfl (by decide +kernel) ⟨Nat.le_of_ble_eq_true rfl, Nat.le_of_ble_eq_true rfl⟩) (dp_recv hK hD.1 rfl) hS (fun q hq => hq) [] rfl rfl hl.1 (Nat.le_of_ble_eq_true rfl) dX5_fairSpeed_6 ⟨Nat.le_of_ble_eq_true rfl, Nat.le_of_ble_eq_true rfl⟩ (fun rH2 H2 locs hp hzH2 hkH2 hS => ?_)
  obtain ⟨rfl, w, RT, hw, hD⟩ := hp
  refine W.widen (k := 1) (n := 6) (Nat.le_of_ble_eq_true rfl) (Nat.le_of_ble_eq_true rfl) ?_
  refine vx_ret ?_
  exact W.iret hx hb hr (fun t ht hW => ⟨⟨fair R j, H2, rfl, ⟨by simp [cOne, nS_ok hj, hix], by rw [hix], ⟨w, _, hw, hD⟩⟩, ht⟩, hS.F ht⟩) hS.2.2 dX5_fairSpeed_9

set_option maxHeartbeats 600000 in
set_option maxRecDepth 100000 in
theorem c_X5_setting (l : Launch) (hl9 : l.stackTraces = false) (D : va_G) (G : Nat → ClassId) (α : Nat → Nat) (w : Nat → Nat) (R RT RS : Nat → Int32) (kp : Int32) (sv : Nat → Nat → Int32) (n : Nat) (F : Nat → Int32) (len : Nat) (i : Int32) (H : Heap) (hα : inj 115 α) (hw : pm w) (hD : DP D G α w R RT RS kp sv n F len H) (hbz : bz R) (hm : mono R) (hn6 : n ≤ 6) (hl6 : len ≤ 60) : vx_Met l yX5_setting wsX5_setting ({ frames := 7, cells := 1, slots := 6, locals := 110 } : Room) (va_Pc [.ref (α 0), .int i] (CE D G (A5 α) H)) (QI (A5 α) (fun r h => cSet1 i = 0 ∧ R (ix i) = r ∧ DW D G α R RS kp sv n F len h)) (XX (fun E => (E = xI ∧ cSet1 i = 1))) 1 6 (A5 α) := by
  refine vx_ofW (cc := cX5_setting) (maxL := 2) (ret := (some .int)) (by decide) rfl ?_
  intro p e s m args below meth c s₁ B0 hml ht9 hv
  obtain ⟨rfl, ⟨rfl, hK, hN⟩, hE, hZ⟩ := hv
  have hx := B0.exec
  have hb := B0.bytes
  have hr := B0.returns
  have hts := atoms_spec (ws := wsX5_setting) B0.pre
  have hown : s.vm.findClass RX5 = some m.cls := findClass_of_methodNamed B0.named
  have hlocks := B0.notSynchronized
  have hF : CallFix p m c cX5_setting 2 s ([.ref (α 0), .int i] : List Value).toArray wsX5_setting RX5 := ⟨hx, hb, hml, hown, hts⟩
  have hS : va_S (A5 α) s.heap s.heap [] := va_S.rf
  have hl := lv_entry ([.ref (α 0), .int i]) (n := 2) (Nat.le_of_ble_eq_true rfl)
  rw [lg_entry_eq]
  generalize (lg_sl ([.ref (α 0), .int i]) ++ List.replicate (2 - (lg_sl ([.ref (α 0), .int i])).length) Slot.unset).toArray = ls at hl ⊢
  have hl : lv_has ls 2 [(0, .ref (α 0)), (1, .int i)] := hl
  refine lv_iload_n hx hb dX5_setting_0 rfl (lv_at hl 1 rfl) ?_
  refine dpx_Sv hF hK hN hE hZ ht9 hlocks (c_X5_needSetting l hl9 D G i _) (va_cwS 1 hts gX5_setting_X5_needSetting rfl rfl rfl (by decide +kernel) ⟨Nat.le_of_ble_eq_true rfl, Nat.le_of_ble_eq_true rfl⟩) hS [] rfl rfl hl.1 (Nat.le_of_ble_eq_true rfl) dX5_setting_1 ⟨Nat.le_of_ble_eq_true rfl, Nat.le_of_ble_eq_true rfl⟩ (fun E h => ⟨h.1, by simp [cSet1, nF_bad h.2]⟩) (fun H1 h q hq _ => h q hq) ⟨Nat.le_of_ble_eq_true rfl, Nat.le_of_ble_eq_true rfl⟩ (fun H1 locs hp _ _ hS => ?_)
  obtain ⟨rfl, j, hj, rfl⟩ := hp
  have hix : ix (nI j) = j := ix_nI (by omega)
  refine lv_aload_n hx hb dX5_setting_4 rfl (lv_at hl 0 rfl) ?_
  refine dp_get hx hb hts (dp_hin 9 rfl) hown hK hD.1 rfl 0 (by decide) (hts (.fieldLink RX5 10 "DroopBoard" "board" "LDroopBoard$Board;") (List.mem_of_getElem? (i := 1) rfl)) rfl dX5_setting_5 ?_
  refine dp_get hx hb hts (dp_hin 15 rfl) hown hK hD.2.1.1 rfl 2 (by decide) (hts (.fieldLink RX5 148 "DroopBoard$Board" "settings" "[I") (List.mem_of_getElem? (i := 2) rfl)) rfl dX5_setting_8 ?_
  refine lv_iload_n hx hb dX5_setting_11 rfl (lv_at hl 1 rfl) ?_
  refine dp_iald hx hb hK hD.2.1.2.2.2.1 0 rfl j rfl hj (by decide) dX5_setting_12 ?_
  refine W.widen (k := 1) (n := 6) (Nat.le_of_ble_eq_true rfl) (Nat.le_of_ble_eq_true rfl) ?_
  refine vx_ret ?_
  exact W.iret hx hb hr (fun t ht hW => ⟨⟨R j, s.heap, rfl, ⟨by simp [cSet1, nF_ok hj, hix], by rw [hix], ⟨w, _, hw, hD⟩⟩, ht⟩, hS.F ht⟩) hS.2.2 dX5_setting_13

set_option maxHeartbeats 600000 in
set_option maxRecDepth 100000 in
theorem c_X5_ifSpeed (l : Launch) (hl9 : l.stackTraces = false) (D : va_G) (G : Nat → ClassId) (α : Nat → Nat) (w : Nat → Nat) (R RT RS : Nat → Int32) (kp : Int32) (sv : Nat → Nat → Int32) (n : Nat) (F : Nat → Int32) (len : Nat) (i v q : Int32) (H : Heap) (hα : inj 115 α) (hw : pm w) (hD : DP D G α w R RT RS kp sv n F len H) (hbz : bz R) (hm : mono R) (hn6 : n ≤ 6) (hl6 : len ≤ 60) (hm2 : cIf i v q = 0 → mono (usp R (ix i) v)) : vx_Met l yX5_ifSpeed wsX5_ifSpeed ({ frames := 7, cells := 3, slots := 18, locals := 112 } : Room) (va_Pc [.ref (α 0), .int i, .int v, .int q] (CE D G (A5 α) H)) (QI (A5 α) (fun r h => cIf i v q = 0 ∧ tif R (ix i) v q = r ∧ DW D G α R RS kp sv n F len h)) (XX (fun E => (E = xI ∧ cIf i v q = 1) ∨ (E = xA ∧ cIf i v q = 2))) 3 18 (A5 α) := by
  refine vx_ofW (cc := cX5_ifSpeed) (maxL := 4) (ret := (some .int)) (by decide) rfl ?_
  intro p e s m args below meth c s₁ B0 hml ht9 hv
  obtain ⟨rfl, ⟨rfl, hK, hN⟩, hE, hZ⟩ := hv
  have hx := B0.exec
  have hb := B0.bytes
  have hr := B0.returns
  have hts := atoms_spec (ws := wsX5_ifSpeed) B0.pre
  have hown : s.vm.findClass RX5 = some m.cls := findClass_of_methodNamed B0.named
  have hlocks := B0.notSynchronized
  have hF : CallFix p m c cX5_ifSpeed 4 s ([.ref (α 0), .int i, .int v, .int q] : List Value).toArray wsX5_ifSpeed RX5 := ⟨hx, hb, hml, hown, hts⟩
  have hS : va_S (A5 α) s.heap s.heap [] := va_S.rf
  have hl := lv_entry ([.ref (α 0), .int i, .int v, .int q]) (n := 4) (Nat.le_of_ble_eq_true rfl)
  rw [lg_entry_eq]
  generalize (lg_sl ([.ref (α 0), .int i, .int v, .int q]) ++ List.replicate (4 - (lg_sl ([.ref (α 0), .int i, .int v, .int q])).length) Slot.unset).toArray = ls at hl ⊢
  have hl : lv_has ls 4 [(0, .ref (α 0)), (1, .int i), (2, .int v), (3, .int q)] := hl
  refine lv_iload_n hx hb dX5_ifSpeed_0 rfl (lv_at hl 1 rfl) ?_
  refine dpx_Sv hF hK hN hE hZ ht9 hlocks (c_X5_needSet l hl9 D G i _) (va_cwS 1 hts gX5_ifSpeed_X5_needSet rfl rfl rfl (by decide +kernel) ⟨Nat.le_of_ble_eq_true rfl, Nat.le_of_ble_eq_true rfl⟩) hS [] rfl rfl hl.1 (Nat.le_of_ble_eq_true rfl) dX5_ifSpeed_1 ⟨Nat.le_of_ble_eq_true rfl, Nat.le_of_ble_eq_true rfl⟩ (fun E h => Or.inl ⟨h.1, by simp [cIf, nS_bad h.2]⟩) (fun H1 h q hq _ => h q hq) ⟨Nat.le_of_ble_eq_true rfl, Nat.le_of_ble_eq_true rfl⟩ (fun H1 locs hp _ _ hS => ?_)
  obtain ⟨rfl, j, hj, rfl⟩ := hp
  have hix : ix (nI j) = j := ix_nI (by omega)
  rw [hix] at hm2
  refine lv_iload_n hx hb dX5_ifSpeed_4 rfl (lv_at hl 2 rfl) ?_
  refine lv_sipush (v := 4700) hx hb dX5_ifSpeed_5 (by decide) ?_
  refine lv_sipush (v := 5300) hx hb dX5_ifSpeed_8 (by decide) ?_
  refine dpx_Sv hF hK hN hE hZ ht9 hlocks (c_X5_needRange l hl9 D G v 4700 5300 _) (va_cwS 3 hts gX5_ifSpeed_X5_needRange rfl rfl rfl (by decide +kernel) ⟨Nat.le_of_ble_eq_true rfl, Nat.le_of_ble_eq_true rfl⟩) hS [] rfl rfl hl.1 (Nat.le_of_ble_eq_true rfl) dX5_ifSpeed_11 ⟨Nat.le_of_ble_eq_true rfl, Nat.le_of_ble_eq_true rfl⟩ (fun E h => Or.inr ⟨h.1, by simp [cIf, nS_ok hj, hix, nR_bad h.2]⟩) (fun H1 h q hq _ => h q hq) ⟨Nat.le_of_ble_eq_true rfl, Nat.le_of_ble_eq_true rfl⟩ (fun H2 locs hp _ _ hS => ?_)
  obtain ⟨rfl, hr2⟩ := hp
  refine lv_iload_n hx hb dX5_ifSpeed_14 rfl (lv_at hl 3 rfl) ?_
  refine lv_iconst (v := 0) hx hb dX5_ifSpeed_15 (by decide) ?_
  refine lv_iconst (v := 2) hx hb dX5_ifSpeed_16 (by decide) ?_
  refine dpx_Sv hF hK hN hE hZ ht9 hlocks (c_X5_needRange l hl9 D G q 0 2 _) (va_cwS 3 hts gX5_ifSpeed_X5_needRange rfl rfl rfl (by decide +kernel) ⟨Nat.le_of_ble_eq_true rfl, Nat.le_of_ble_eq_true rfl⟩) hS [] rfl rfl hl.1 (Nat.le_of_ble_eq_true rfl) dX5_ifSpeed_17 ⟨Nat.le_of_ble_eq_true rfl, Nat.le_of_ble_eq_true rfl⟩ (fun E h => Or.inr ⟨h.1, by simp [cIf, nS_ok hj, hix, nR_ok hr2, nR_bad h.2]⟩) (fun H1 h q hq _ => h q hq) ⟨Nat.le_of_ble_eq_true rfl, Nat.le_of_ble_eq_true rfl⟩ (fun H3 locs hp _ _ hS => ?_)
  obtain ⟨rfl, hr3⟩ := hp
  refine lv_aload_n hx hb dX5_ifSpeed_20 rfl (lv_at hl 0 rfl) ?_
  refine lv_iload_n hx hb dX5_ifSpeed_21 rfl (lv_at hl 1 rfl) ?_
  refine lv_iload_n hx hb dX5_ifSpeed_22 rfl (lv_at hl 2 rfl) ?_
  refine lv_iload_n hx hb dX5_ifSpeed_23 rfl (lv_at hl 3 rfl) ?_
  refine dp_Vi hF hK hN (c_X5_tellIfSpeed l D G α w R RT RS kp sv n F len j v q _ hα hw hD hbz hm hn6 hl6 hj (hm2 (by simp [cIf, nS_ok hj, nR_ok hr2, nR_ok hr3]))) (cwV 3 hts gX5_ifSpeed_X5_tellIfSpeed rfl rfl rfl (by decide +kernel) ⟨Nat.le_of_ble_eq_true rfl, Nat.le_of_ble_eq_true rfl⟩) (dp_recv hK hD.1 rfl) hS (fun q hq => hq) [] rfl rfl hl.1 (Nat.le_of_ble_eq_true rfl) dX5_ifSpeed_24 ⟨Nat.le_of_ble_eq_true rfl, Nat.le_of_ble_eq_true rfl⟩ (fun rH4 H4 locs hp hzH4 hkH4 hS => ?_)
  obtain ⟨rfl, w, RT, hw, hD⟩ := hp
  refine W.widen (k := 3) (n := 18) (Nat.le_of_ble_eq_true rfl) (Nat.le_of_ble_eq_true rfl) ?_
  refine vx_ret ?_
  exact W.iret hx hb hr (fun t ht hW => ⟨⟨tif R j v q, H4, rfl, ⟨by simp [cIf, nS_ok hj, hix, nR_ok hr2, nR_ok hr3], by rw [hix], ⟨w, _, hw, hD⟩⟩, ht⟩, hS.F ht⟩) hS.2.2 dX5_ifSpeed_27
