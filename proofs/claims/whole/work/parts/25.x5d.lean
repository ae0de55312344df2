set_option maxHeartbeats 600000 in
set_option maxRecDepth 100000 in
theorem c_X5_diesel (l : Launch) (hl9 : l.stackTraces = false) (D : va_G) (G : Nat → ClassId) (α : Nat → Nat) (w : Nat → Nat) (R RT RS : Nat → Int32) (kp : Int32) (sv : Nat → Nat → Int32) (n : Nat) (F : Nat → Int32) (len : Nat) (i q : Int32) (H : Heap) (hα : inj 115 α) (hw : pm w) (hD : DP D G α w R RT RS kp sv n F len H) (hbz : bz R) (hm : mono R) (hn6 : n ≤ 6) (hl6 : len ≤ 60) : vx_Met l yX5_diesel wsX5_diesel ({ frames := 7, cells := 2, slots := 12, locals := 114 } : Room) (va_Pc [.ref (α 0), .int i, .int q] (CE D G (A5 α) H)) (QI (A5 α) (fun r h => cLook i q 12 = 0 ∧ tset R (ix i) q = r ∧ DW D G α R RS kp sv n F len h)) (XX (fun E => (E = xI ∧ cLook i q 12 = 1) ∨ (E = xA ∧ cLook i q 12 = 2))) 2 12 (A5 α) := by
  refine vx_ofW (cc := cX5_diesel) (maxL := 3) (ret := (some .int)) (by decide) rfl ?_
  intro p e s m args below meth c s₁ B0 hml ht9 hv
  obtain ⟨rfl, ⟨rfl, hK, hN⟩, hE, hZ⟩ := hv
  have hx := B0.exec
  have hb := B0.bytes
  have hr := B0.returns
  have hts := atoms_spec (ws := wsX5_diesel) B0.pre
  have hown : s.vm.findClass RX5 = some m.cls := findClass_of_methodNamed B0.named
  have hlocks := B0.notSynchronized
  have hF : CallFix p m c cX5_diesel 3 s ([.ref (α 0), .int i, .int q] : List Value).toArray wsX5_diesel RX5 := ⟨hx, hb, hml, hown, hts⟩
  have hS : va_S (A5 α) s.heap s.heap [] := va_S.rf
  have hl := lv_entry ([.ref (α 0), .int i, .int q]) (n := 3) (Nat.le_of_ble_eq_true rfl)
  rw [lg_entry_eq]
  generalize (lg_sl ([.ref (α 0), .int i, .int q]) ++ List.replicate (3 - (lg_sl ([.ref (α 0), .int i, .int q])).length) Slot.unset).toArray = ls at hl ⊢
  have hl : lv_has ls 3 [(0, .ref (α 0)), (1, .int i), (2, .int q)] := hl
  refine lv_iload_n hx hb dX5_diesel_0 rfl (lv_at hl 1 rfl) ?_
  refine dpx_Sv hF hK hN hE hZ ht9 hlocks (c_X5_needSet l hl9 D G i _) (va_cwS 1 hts gX5_diesel_X5_needSet rfl rfl rfl (by decide +kernel) ⟨Nat.le_of_ble_eq_true rfl, Nat.le_of_ble_eq_true rfl⟩) hS [] rfl rfl hl.1 (Nat.le_of_ble_eq_true rfl) dX5_diesel_1 ⟨Nat.le_of_ble_eq_true rfl, Nat.le_of_ble_eq_true rfl⟩ (fun E h => Or.inl ⟨h.1, by simp [cLook, nS_bad h.2]⟩) (fun H1 h q hq _ => h q hq) ⟨Nat.le_of_ble_eq_true rfl, Nat.le_of_ble_eq_true rfl⟩ (fun H1 locs hp _ _ hS => ?_)
  obtain ⟨rfl, j, hj, rfl⟩ := hp
  have hix : ix (nI j) = j := ix_nI (by omega)
  refine lv_iload_n hx hb dX5_diesel_4 rfl (lv_at hl 2 rfl) ?_
  refine lv_iconst (v := 0) hx hb dX5_diesel_5 (by decide) ?_
  refine lv_bipush (v := 12) hx hb dX5_diesel_6 (by decide) ?_
  refine dpx_Sv hF hK hN hE hZ ht9 hlocks (c_X5_needRange l hl9 D G q 0 12 _) (va_cwS 3 hts gX5_diesel_X5_needRange rfl rfl rfl (by decide +kernel) ⟨Nat.le_of_ble_eq_true rfl, Nat.le_of_ble_eq_true rfl⟩) hS [] rfl rfl hl.1 (Nat.le_of_ble_eq_true rfl) dX5_diesel_8 ⟨Nat.le_of_ble_eq_true rfl, Nat.le_of_ble_eq_true rfl⟩ (fun E h => Or.inr ⟨h.1, by simp [cLook, nS_ok hj, hix, nR_bad h.2]⟩) (fun H1 h q hq _ => h q hq) ⟨Nat.le_of_ble_eq_true rfl, Nat.le_of_ble_eq_true rfl⟩ (fun H2 locs hp _ _ hS => ?_)
  obtain ⟨rfl, hr2⟩ := hp
  refine lv_aload_n hx hb dX5_diesel_11 rfl (lv_at hl 0 rfl) ?_
  refine lv_iload_n hx hb dX5_diesel_12 rfl (lv_at hl 1 rfl) ?_
  refine lv_iload_n hx hb dX5_diesel_13 rfl (lv_at hl 2 rfl) ?_
  refine dp_Vi hF hK hN (c_X5_tellOfSet l D G α w R RT RS kp sv n F len j q _ hα hw hD hbz hm hn6 hl6 hj) (cwV 2 hts gX5_diesel_X5_tellOfSet rfl rfl rfl (by decide +kernel) ⟨Nat.le_of_ble_eq_true rfl, Nat.le_of_ble_eq_true rfl⟩) (dp_recv hK hD.1 rfl) hS nA_i [] rfl rfl hl.1 (Nat.le_of_ble_eq_true rfl) dX5_diesel_14 ⟨Nat.le_of_ble_eq_true rfl, Nat.le_of_ble_eq_true rfl⟩ (fun rH3 H3 locs hp hzH3 hkH3 hS => ?_)
  obtain ⟨rfl, rfl⟩ := hp
  refine W.widen (k := 2) (n := 12) (Nat.le_of_ble_eq_true rfl) (Nat.le_of_ble_eq_true rfl) ?_
  refine vx_ret ?_
  exact W.iret hx hb hr (fun t ht hW => ⟨⟨tset R j q, s.heap, rfl, ⟨by simp [cLook, nS_ok hj, hix, nR_ok hr2], by rw [hix], ⟨w, _, hw, hD⟩⟩, ht⟩, hS.F ht⟩) hS.2.2 dX5_diesel_17

set_option maxHeartbeats 600000 in
set_option maxRecDepth 100000 in
theorem c_X5_line (l : Launch) (hl9 : l.stackTraces = false) (D : va_G) (G : Nat → ClassId) (α : Nat → Nat) (w : Nat → Nat) (R RT RS : Nat → Int32) (kp : Int32) (sv : Nat → Nat → Int32) (n : Nat) (F : Nat → Int32) (len : Nat) (i q : Int32) (H : Heap) (hα : inj 115 α) (hw : pm w) (hD : DP D G α w R RT RS kp sv n F len H) (hbz : bz R) (hm : mono R) (hn6 : n ≤ 6) (hl6 : len ≤ 60) : vx_Met l yX5_line wsX5_line ({ frames := 7, cells := 2, slots := 12, locals := 112 } : Room) (va_Pc [.ref (α 0), .int i, .int q] (CE D G (A5 α) H)) (QI (A5 α) (fun r h => cLine i q = 0 ∧ tfee R (ix i) q = r ∧ DW D G α R RS kp sv n F len h)) (XX (fun E => (E = xI ∧ cLine i q = 1) ∨ (E = xA ∧ cLine i q = 2))) 2 12 (A5 α) := by
  refine vx_ofW (cc := cX5_line) (maxL := 3) (ret := (some .int)) (by decide) rfl ?_
  intro p e s m args below meth c s₁ B0 hml ht9 hv
  obtain ⟨rfl, ⟨rfl, hK, hN⟩, hE, hZ⟩ := hv
  have hx := B0.exec
  have hb := B0.bytes
  have hr := B0.returns
  have hts := atoms_spec (ws := wsX5_line) B0.pre
  have hown : s.vm.findClass RX5 = some m.cls := findClass_of_methodNamed B0.named
  have hlocks := B0.notSynchronized
  have hF : CallFix p m c cX5_line 3 s ([.ref (α 0), .int i, .int q] : List Value).toArray wsX5_line RX5 := ⟨hx, hb, hml, hown, hts⟩
  have hS : va_S (A5 α) s.heap s.heap [] := va_S.rf
  have hl := lv_entry ([.ref (α 0), .int i, .int q]) (n := 3) (Nat.le_of_ble_eq_true rfl)
  rw [lg_entry_eq]
  generalize (lg_sl ([.ref (α 0), .int i, .int q]) ++ List.replicate (3 - (lg_sl ([.ref (α 0), .int i, .int q])).length) Slot.unset).toArray = ls at hl ⊢
  have hl : lv_has ls 3 [(0, .ref (α 0)), (1, .int i), (2, .int q)] := hl
  refine lv_iload_n hx hb dX5_line_0 rfl (lv_at hl 1 rfl) ?_
  refine dpx_Sv hF hK hN hE hZ ht9 hlocks (c_X5_needFeeder l hl9 D G i _) (va_cwS 1 hts gX5_line_X5_needFeeder rfl rfl rfl (by decide +kernel) ⟨Nat.le_of_ble_eq_true rfl, Nat.le_of_ble_eq_true rfl⟩) hS [] rfl rfl hl.1 (Nat.le_of_ble_eq_true rfl) dX5_line_1 ⟨Nat.le_of_ble_eq_true rfl, Nat.le_of_ble_eq_true rfl⟩ (fun E h => Or.inl ⟨h.1, by simp [cLine, nF_bad h.2]⟩) (fun H1 h q hq _ => h q hq) ⟨Nat.le_of_ble_eq_true rfl, Nat.le_of_ble_eq_true rfl⟩ (fun H1 locs hp _ _ hS => ?_)
  obtain ⟨rfl, j, hj, rfl⟩ := hp
  have hix : ix (nI j) = j := ix_nI (by omega)
  refine lv_iload_n hx hb dX5_line_4 rfl (lv_at hl 2 rfl) ?_
  refine lv_iconst (v := 0) hx hb dX5_line_5 (by decide) ?_
  refine lv_iconst (v := 2) hx hb dX5_line_6 (by decide) ?_
  refine dpx_Sv hF hK hN hE hZ ht9 hlocks (c_X5_needRange l hl9 D G q 0 2 _) (va_cwS 3 hts gX5_line_X5_needRange rfl rfl rfl (by decide +kernel) ⟨Nat.le_of_ble_eq_true rfl, Nat.le_of_ble_eq_true rfl⟩) hS [] rfl rfl hl.1 (Nat.le_of_ble_eq_true rfl) dX5_line_7 ⟨Nat.le_of_ble_eq_true rfl, Nat.le_of_ble_eq_true rfl⟩ (fun E h => Or.inr ⟨h.1, by simp [cLine, nF_ok hj, hix, nR_bad h.2]⟩) (fun H1 h q hq _ => h q hq) ⟨Nat.le_of_ble_eq_true rfl, Nat.le_of_ble_eq_true rfl⟩ (fun H2 locs hp _ _ hS => ?_)
  obtain ⟨rfl, hr2⟩ := hp
  refine lv_aload_n hx hb dX5_line_10 rfl (lv_at hl 0 rfl) ?_
  refine lv_iload_n hx hb dX5_line_11 rfl (lv_at hl 1 rfl) ?_
  refine lv_iload_n hx hb dX5_line_12 rfl (lv_at hl 2 rfl) ?_
  refine dp_Vi hF hK hN (c_X5_tellOfFeeder l D G α w R RT RS kp sv n F len j q _ hα hw hD hbz hm hn6 hl6 hj) (cwV 2 hts gX5_line_X5_tellOfFeeder rfl rfl rfl (by decide +kernel) ⟨Nat.le_of_ble_eq_true rfl, Nat.le_of_ble_eq_true rfl⟩) (dp_recv hK hD.1 rfl) hS nA_i [] rfl rfl hl.1 (Nat.le_of_ble_eq_true rfl) dX5_line_13 ⟨Nat.le_of_ble_eq_true rfl, Nat.le_of_ble_eq_true rfl⟩ (fun rH3 H3 locs hp hzH3 hkH3 hS => ?_)
  obtain ⟨rfl, rfl⟩ := hp
  refine W.widen (k := 2) (n := 12) (Nat.le_of_ble_eq_true rfl) (Nat.le_of_ble_eq_true rfl) ?_
  refine vx_ret ?_
  exact W.iret hx hb hr (fun t ht hW => ⟨⟨tfee R j q, s.heap, rfl, ⟨by simp [cLine, nF_ok hj, hix, nR_ok hr2], by rw [hix], ⟨w, _, hw, hD⟩⟩, ht⟩, hS.F ht⟩) hS.2.2 dX5_line_16

set_option maxHeartbeats 600000 in
set_option maxRecDepth 100000 in
theorem c_X5_count (l : Launch) (hl9 : l.stackTraces = false) (D : va_G) (G : Nat → ClassId) (α : Nat → Nat) (w : Nat → Nat) (R RT RS : Nat → Int32) (kp : Int32) (sv : Nat → Nat → Int32) (n : Nat) (F : Nat → Int32) (len : Nat) (q : Int32) (H : Heap) (hα : inj 115 α) (hw : pm w) (hD : DP D G α w R RT RS kp sv n F len H) (hbz : bz R) (hm : mono R) (hn6 : n ≤ 6) (hl6 : len ≤ 60) : vx_Met l yX5_count wsX5_count ({ frames := 7, cells := 1, slots := 6, locals := 112 } : Room) (va_Pc [.ref (α 0), .int q] (CE D G (A5 α) H)) (QI (A5 α) (fun r h => cCount q = 0 ∧ tcnt R n q = r ∧ DW D G α R RS kp sv n F len h)) (XX (fun E => (E = xA ∧ cCount q = 1))) 1 6 (A5 α) := by
  refine vx_ofW (cc := cX5_count) (maxL := 2) (ret := (some .int)) (by decide) rfl ?_
  intro p e s m args below meth c s₁ B0 hml ht9 hv
  obtain ⟨rfl, ⟨rfl, hK, hN⟩, hE, hZ⟩ := hv
  have hx := B0.exec
  have hb := B0.bytes
  have hr := B0.returns
  have hts := atoms_spec (ws := wsX5_count) B0.pre
  have hown : s.vm.findClass RX5 = some m.cls := findClass_of_methodNamed B0.named
  have hlocks := B0.notSynchronized
  have hF : CallFix p m c cX5_count 2 s ([.ref (α 0), .int q] : List Value).toArray wsX5_count RX5 := ⟨hx, hb, hml, hown, hts⟩
  have hS : va_S (A5 α) s.heap s.heap [] := va_S.rf
  have hl := lv_entry ([.ref (α 0), .int q]) (n := 2) (Nat.le_of_ble_eq_true rfl)
  rw [lg_entry_eq]
  generalize (lg_sl ([.ref (α 0), .int q]) ++ List.replicate (2 - (lg_sl ([.ref (α 0), .int q])).length) Slot.unset).toArray = ls at hl ⊢
  have hl : lv_has ls 2 [(0, .ref (α 0)), (1, .int q)] := hl
  refine lv_iload_n hx hb dX5_count_0 rfl (lv_at hl 1 rfl) ?_
  refine lv_iconst (v := 0) hx hb dX5_count_1 (by decide) ?_
  refine lv_bipush (v := 11) hx hb dX5_count_2 (by decide) ?_
  refine dpx_Sv hF hK hN hE hZ ht9 hlocks (c_X5_needRange l hl9 D G q 0 11 _) (va_cwS 3 hts gX5_count_X5_needRange rfl rfl rfl (by decide +kernel) ⟨Nat.le_of_ble_eq_true rfl, Nat.le_of_ble_eq_true rfl⟩) hS [] rfl rfl hl.1 (Nat.le_of_ble_eq_true rfl) dX5_count_4 ⟨Nat.le_of_ble_eq_true rfl, Nat.le_of_ble_eq_true rfl⟩ (fun E h => ⟨h.1, by simp [cCount, nR_bad h.2]⟩) (fun H1 h q hq _ => h q hq) ⟨Nat.le_of_ble_eq_true rfl, Nat.le_of_ble_eq_true rfl⟩ (fun H1 locs hp _ _ hS => ?_)
  obtain ⟨rfl, hr1⟩ := hp
  refine lv_aload_n hx hb dX5_count_7 rfl (lv_at hl 0 rfl) ?_
  refine lv_iload_n hx hb dX5_count_8 rfl (lv_at hl 1 rfl) ?_
  refine dp_Vi hF hK hN (c_X5_tellCount l D G α w R RT RS kp sv n F len q _ hα hw hD hbz hm hn6 hl6 ) (cwV 1 hts gX5_count_X5_tellCount rfl rfl rfl (by decide +kernel) ⟨Nat.le_of_ble_eq_true rfl, Nat.le_of_ble_eq_true rfl⟩) (dp_recv hK hD.1 rfl) hS nA_i [] rfl rfl hl.1 (Nat.le_of_ble_eq_true rfl) dX5_count_9 ⟨Nat.le_of_ble_eq_true rfl, Nat.le_of_ble_eq_true rfl⟩ (fun rH2 H2 locs hp hzH2 hkH2 hS => ?_)
  obtain ⟨rfl, rfl⟩ := hp
  refine W.widen (k := 1) (n := 6) (Nat.le_of_ble_eq_true rfl) (Nat.le_of_ble_eq_true rfl) ?_
  refine vx_ret ?_
  exact W.iret hx hb hr (fun t ht hW => ⟨⟨tcnt R n q, s.heap, rfl, ⟨by simp [cCount, nR_ok hr1], rfl, ⟨w, _, hw, hD⟩⟩, ht⟩, hS.F ht⟩) hS.2.2 dX5_count_12

set_option maxHeartbeats 600000 in
set_option maxRecDepth 100000 in
theorem c_X5_closeIn (l : Launch) (hl9 : l.stackTraces = false) (D : va_G) (G : Nat → ClassId) (α : Nat → Nat) (w : Nat → Nat) (R RT RS : Nat → Int32) (kp : Int32) (sv : Nat → Nat → Int32) (n : Nat) (F : Nat → Int32) (len : Nat) (i : Int32) (H : Heap) (hα : inj 115 α) (hw : pm w) (hD : DP D G α w R RT RS kp sv n F len H) (hbz : bz R) (hm : mono R) (hn6 : n ≤ 6) (hl6 : len ≤ 60) (hmp : ∀ k, k ≤ 501 → mono (pt R k)) : vx_Met l yX5_closeIn wsX5_closeIn ({ frames := 7, cells := 1, slots := 6, locals := 114 } : Room) (va_Pc [.ref (α 0), .int i] (CE D G (A5 α) H)) (QI (A5 α) (fun r h => cOne i = 0 ∧ cin R (ix i) = r ∧ DW D G α R RS kp sv n F len h)) (XX (fun E => (E = xI ∧ cOne i = 1))) 1 6 (A5 α) := by
  refine vx_ofW (cc := cX5_closeIn) (maxL := 2) (ret := (some .int)) (by decide) rfl ?_
  intro p e s m args below meth c s₁ B0 hml ht9 hv
  obtain ⟨rfl, ⟨rfl, hK, hN⟩, hE, hZ⟩ := hv
  have hx := B0.exec
  have hb := B0.bytes
  have hr := B0.returns
  have hts := atoms_spec (ws := wsX5_closeIn) B0.pre
  have hown : s.vm.findClass RX5 = some m.cls := findClass_of_methodNamed B0.named
  have hlocks := B0.notSynchronized
  have hF : CallFix p m c cX5_closeIn 2 s ([.ref (α 0), .int i] : List Value).toArray wsX5_closeIn RX5 := ⟨hx, hb, hml, hown, hts⟩
  have hS : va_S (A5 α) s.heap s.heap [] := va_S.rf
  have hl := lv_entry ([.ref (α 0), .int i]) (n := 2) (Nat.le_of_ble_eq_true rfl)
  rw [lg_entry_eq]
  generalize (lg_sl ([.ref (α 0), .int i]) ++ List.replicate (2 - (lg_sl ([.ref (α 0), .int i])).length) Slot.unset).toArray = ls at hl ⊢
  have hl : lv_has ls 2 [(0, .ref (α 0)), (1, .int i)] := hl
  refine lv_iload_n hx hb dX5_closeIn_0 rfl (lv_at hl 1 rfl) ?_
  refine dpx_Sv hF hK hN hE hZ ht9 hlocks (c_X5_needSet l hl9 D G i _) (va_cwS 1 hts gX5_closeIn_X5_needSet rfl rfl rfl (by decide +kernel) ⟨Nat.le_of_ble_eq_true rfl, Nat.le_of_ble_eq_true rfl⟩) hS [] rfl rfl hl.1 (Nat.le_of_ble_eq_true rfl) dX5_closeIn_1 ⟨Nat.le_of_ble_eq_true rfl, Nat.le_of_ble_eq_true rfl⟩ (fun E h => ⟨h.1, by simp [cOne, nS_bad h.2]⟩) (fun H1 h q hq _ => h q hq) ⟨Nat.le_of_ble_eq_true rfl, Nat.le_of_ble_eq_true rfl⟩ (fun H1 locs hp _ _ hS => ?_)
  obtain ⟨rfl, j, hj, rfl⟩ := hp
  have hix : ix (nI j) = j := ix_nI (by omega)
  refine lv_aload_n hx hb dX5_closeIn_4 rfl (lv_at hl 0 rfl) ?_
  refine lv_iload_n hx hb dX5_closeIn_5 rfl (lv_at hl 1 rfl) ?_
  refine dp_Vi hF hK hN (c_X5_ticksUntilClosing l D G α w R RT RS kp sv n F len j _ hα hw hD hbz hm hn6 hl6 hj hmp) (cwV 1 hts gX5_closeIn_X5_ticksUntilClosing rfl rfl rfl (by decide +kernel) ⟨Nat.le_of_ble_eq_true rfl, Nat.le_of_ble_eq_true rfl⟩) (dp_recv hK hD.1 rfl) hS (fun q hq => hq) [] rfl rfl hl.1 (Nat.le_of_ble_eq_true rfl) dX5_closeIn_6 ⟨Nat.le_of_ble_eq_true rfl, Nat.le_of_ble_eq_true rfl⟩ (fun rH2 H2 locs hp hzH2 hkH2 hS => ?_)
  obtain ⟨rfl, w, RT, hw, hD⟩ := hp
  refine W.widen (k := 1) (n := 6) (Nat.le_of_ble_eq_true rfl) (Nat.le_of_ble_eq_true rfl) ?_
  refine vx_ret ?_
  exact W.iret hx hb hr (fun t ht hW => ⟨⟨cin R j, H2, rfl, ⟨by simp [cOne, nS_ok hj, hix], by rw [hix], ⟨w, _, hw, hD⟩⟩, ht⟩, hS.F ht⟩) hS.2.2 dX5_closeIn_9

set_option maxHeartbeats 600000 in
set_option maxRecDepth 100000 in
theorem c_X5_fairSpeed (l : Launch) (hl9 : l.stackTraces = false) (D : va_G) (G : Nat → ClassId) (α : Nat → Nat) (w : Nat → Nat) (R RT RS : Nat → Int32) (kp : Int32) (sv : Nat → Nat → Int32) (n : Nat) (F : Nat → Int32) (len : Nat) (i : Int32) (H : Heap) (hα : inj 115 α) (hw : pm w) (hD : DP D G α w R RT RS kp sv n F len H) (hbz : bz R) (hm : mono R) (hn6 : n ≤ 6) (hl6 : len ≤ 60) (hms : ∀ k, k ≤ 600 → mono (usp R (ix i) (nI (4700 + k)))) : vx_Met l yX5_fairSpeed wsX5_fairSpeed ({ frames := 7, cells := 1, slots := 6, locals := 112 } : Room) (va_Pc [.ref (α 0), .int i] (CE D G (A5 α) H)) (QI (A5 α) (fun r h => cOne i = 0 ∧ fair R (ix i) = r ∧ DW D G α R RS kp sv n F len h)) (XX (fun E => (E = xI ∧ cOne i = 1))) 1 6 (A5 α) := by
  refine vx_ofW (cc := cX5_fairSpeed) (maxL := 2) (ret := (some .int)) (by decide) rfl ?_
  intro p e s m args below meth c s₁ B0 hml ht9 hv
  obtain ⟨rfl, ⟨rfl, hK, hN⟩, hE, hZ⟩ := hv
  have hx := B0.exec
  have hb := B0.bytes
  have hr := B0.returns
  have hts := atoms_spec (ws := wsX5_fairSpeed) B0.pre
  have hown : s.vm.findClass RX5 = some m.cls := findClass_of_methodNamed B0.named
  have hlocks := B0.notSynchronized
  have hF : CallFix p m c cX5_fairSpeed 2 s ([.ref (α 0), .int i] : List Value).toArray wsX5_fairSpeed RX5 := ⟨hx, hb, hml, hown, hts⟩
  have hS : va_S (A5 α) s.heap s.heap [] := va_S.rf
  have hl := lv_entry ([.ref (α 0), .int i]) (n := 2) (Nat.le_of_ble_eq_true rfl)
  rw [lg_entry_eq]
  generalize (lg_sl ([.ref (α 0), .int i]) ++ List.replicate (2 - (lg_sl ([.ref (α 0), .int i])).length) Slot.unset).toArray = ls at hl ⊢
  have hl : lv_has ls 2 [(0, .ref (α 0)), (1, .int i)] := hl
  refine lv_iload_n hx hb dX5_fairSpeed_0 rfl (lv_at hl 1 rfl) ?_
  refine dpx_Sv hF hK hN hE hZ ht9 hlocks (c_X5_needSet l hl9 D G i _) (va_cwS 1 hts gX5_fairSpeed_X5_needSet rfl rfl rfl (by decide +kernel) ⟨Nat.le_of_ble_eq_true rfl, Nat.le_of_ble_eq_true rfl⟩) hS [] rfl rfl hl.1 (Nat.le_of_ble_eq_true rfl) dX5_fairSpeed_1 ⟨Nat.le_of_ble_eq_true rfl, Nat.le_of_ble_eq_true rfl⟩ (fun E h => ⟨h.1, by simp [cOne, nS_bad h.2]⟩) (fun H1 h q hq _ => h q hq) ⟨Nat.le_of_ble_eq_true rfl, Nat.le_of_ble_eq_true rfl⟩ (fun H1 locs hp _ _ hS => ?_)
  obtain ⟨rfl, j, hj, rfl⟩ := hp
  have hix : ix (nI j) = j := ix_nI (by omega)
  rw [hix] at hms
  refine lv_aload_n hx hb dX5_fairSpeed_4 rfl (lv_at hl 0 rfl) ?_
  refine lv_iload_n hx hb dX5_fairSpeed_5 rfl (lv_at hl 1 rfl) ?_
  refine dp_Vi hF hK hN (c_X5_speedForFairShare l D G α w R RT RS kp sv n F len j _ hα hw hD hbz hm hn6 hl6 hj hms) (cwV 1 hts gX5_fairSpeed_X5_speedForFairShare rfl rfl rfl (by decide +kernel) ⟨Nat.le_of_ble_eq_true rfl, Nat.le_of_ble_eq_true rfl⟩) (dp_recv hK hD.1 rfl) hS (fun q hq => hq) [] rfl rfl hl.1 (Nat.le_of_ble_eq_true rfl) dX5_fairSpeed_6 ⟨Nat.le_of_ble_eq_true rfl, Nat.le_of_ble_eq_true rfl⟩ (fun rH2 H2 locs hp hzH2 hkH2 hS => ?_)
  obtain ⟨rfl, w, RT, hw, hD⟩ := hp
  refine W.widen (k := 1) (n := 6) (Nat.le_of_ble_eq_true rfl) (Nat.le_of_ble_eq_true rfl) ?_
  refine vx_ret ?_
  exact W.iret hx hb hr (fun t ht hW => ⟨⟨fair R j, H2, rfl, ⟨by simp [cOne, nS_ok hj, hix], by rw [hix], ⟨w, _, hw, hD⟩⟩, ht⟩, hS.F ht⟩) hS.2.2 dX5_fairSpeed_9

set_option maxHeartbeats 600000 in
set_option maxRecDepth 100000 in
theorem c_X5_setting (l : Launch) (hl9 : l.stackTraces = false) (D : va_G) (G : Nat → ClassId) (α : Nat → Nat) (w : Nat → Nat) (R RT RS : Nat → Int32) (kp : Int32) (sv : Nat → Nat → Int32) (n : Nat) (F : Nat → Int32) (len : Nat) (i : Int32) (H : Heap) (hα : inj 115 α) (hw : pm w) (hD : DP D G α w R RT RS kp sv n F len H) (hbz : bz R) (hm : mono R) (hn6 : n ≤ 6) (hl6 : len ≤ 60) : vx_Met l yX5_setting wsX5_setting ({ frames := 7, cells := 1, slots := 6, locals := 110 } : Room) (va_Pc [.ref (α 0), .int i] (CE D G (A5 α) H)) (QI (A5 α) (fun r h => cSet1 i = 0 ∧ R (ix i) = r ∧ DW D G α R RS kp sv n F len h)) (XX (fun E => (E = xI ∧ cSet1 i = 1))) 1 6 (A5 α) := by
  refine vx_ofW (cc := cX5_setting) (maxL := 2) (ret := (some .int)) (by decide) rfl ?_
  intro p e s m args below meth c s₁ B0 hml ht9 hv
  obtain ⟨rfl, ⟨rfl, hK, hN⟩, hE, hZ⟩ := hv
  have hx := B0.exec
  have hb := B0.bytes
  have hr := B0.returns
  have hts := atoms_spec (ws := wsX5_setting) B0.pre
  have hown : s.vm.findClass RX5 = some m.cls := findClass_of_methodNamed B0.named
  have hlocks := B0.notSynchronized
  have hF : CallFix p m c cX5_setting 2 s ([.ref (α 0), .int i] : List Value).toArray wsX5_setting RX5 := ⟨hx, hb, hml, hown, hts⟩
  have hS : va_S (A5 α) s.heap s.heap [] := va_S.rf
  have hl := lv_entry ([.ref (α 0), .int i]) (n := 2) (Nat.le_of_ble_eq_true rfl)
  rw [lg_entry_eq]
  generalize (lg_sl ([.ref (α 0), .int i]) ++ List.replicate (2 - (lg_sl ([.ref (α 0), .int i])).length) Slot.unset).toArray = ls at hl ⊢
  have hl : lv_has ls 2 [(0, .ref (α 0)), (1, .int i)] := hl
  refine lv_iload_n hx hb dX5_setting_0 rfl (lv_at hl 1 rfl) ?_
  refine dpx_Sv hF hK hN hE hZ ht9 hlocks (c_X5_needSetting l hl9 D G i _) (va_cwS 1 hts gX5_setting_X5_needSetting rfl rfl rfl (by decide +kernel) ⟨Nat.le_of_ble_eq_true rfl, Nat.le_of_ble_eq_true rfl⟩) hS [] rfl rfl hl.1 (Nat.le_of_ble_eq_true rfl) dX5_setting_1 ⟨Nat.le_of_ble_eq_true rfl, Nat.le_of_ble_eq_true rfl⟩ (fun E h => ⟨h.1, by simp [cSet1, nF_bad h.2]⟩) (fun H1 h q hq _ => h q hq) ⟨Nat.le_of_ble_eq_true rfl, Nat.le_of_ble_eq_true rfl⟩ (fun H1 locs hp _ _ hS => ?_)
  obtain ⟨rfl, j, hj, rfl⟩ := hp
  have hix : ix (nI j) = j := ix_nI (by omega)
  refine lv_aload_n hx hb dX5_setting_4 rfl (lv_at hl 0 rfl) ?_
  refine dp_get hx hb hts (dp_hin 9 rfl) hown hK hD.1 rfl 0 (by decide) (hts (.fieldLink RX5 10 "DroopBoard" "board" "LDroopBoard$Board;") (List.mem_of_getElem? (i := 1) rfl)) rfl dX5_setting_5 ?_
  refine dp_get hx hb hts (dp_hin 15 rfl) hown hK hD.2.1.1 rfl 2 (by decide) (hts (.fieldLink RX5 148 "DroopBoard$Board" "settings" "[I") (List.mem_of_getElem? (i := 2) rfl)) rfl dX5_setting_8 ?_
  refine lv_iload_n hx hb dX5_setting_11 rfl (lv_at hl 1 rfl) ?_
  refine dp_iald hx hb hK hD.2.1.2.2.2.1 0 rfl j rfl hj (by decide) dX5_setting_12 ?_
  refine W.widen (k := 1) (n := 6) (Nat.le_of_ble_eq_true rfl) (Nat.le_of_ble_eq_true rfl) ?_
  refine vx_ret ?_
  exact W.iret hx hb hr (fun t ht hW => ⟨⟨R j, s.heap, rfl, ⟨by simp [cSet1, nF_ok hj, hix], by rw [hix], ⟨w, _, hw, hD⟩⟩, ht⟩, hS.F ht⟩) hS.2.2 dX5_setting_13

set_option maxHeartbeats 600000 in
set_option maxRecDepth 100000 in
theorem c_X5_ifSpeed (l : Launch) (hl9 : l.stackTraces = false) (D : va_G) (G : Nat → ClassId) (α : Nat → Nat) (w : Nat → Nat) (R RT RS : Nat → Int32) (kp : Int32) (sv : Nat → Nat → Int32) (n : Nat) (F : Nat → Int32) (len : Nat) (i v q : Int32) (H : Heap) (hα : inj 115 α) (hw : pm w) (hD : DP D G α w R RT RS kp sv n F len H) (hbz : bz R) (hm : mono R) (hn6 : n ≤ 6) (hl6 : len ≤ 60) (hm2 : cIf i v q = 0 → mono (usp R (ix i) v)) : vx_Met l yX5_ifSpeed wsX5_ifSpeed ({ frames := 7, cells := 3, slots := 18, locals := 112 } : Room) (va_Pc [.ref (α 0), .int i, .int v, .int q] (CE D G (A5 α) H)) (QI (A5 α) (fun r h => cIf i v q = 0 ∧ tif R (ix i) v q = r ∧ DW D G α R RS kp sv n F len h)) (XX (fun E => (E = xI ∧ cIf i v q = 1) ∨ (E = xA ∧ cIf i v q = 2))) 3 18 (A5 α) := by
  refine vx_ofW (cc := cX5_ifSpeed) (maxL := 4) (ret := (some .int)) (by decide) rfl ?_
  intro p e s m args below meth c s₁ B0 hml ht9 hv
  obtain ⟨rfl, ⟨rfl, hK, hN⟩, hE, hZ⟩ := hv
  have hx := B0.exec
  have hb := B0.bytes
  have hr := B0.returns
  have hts := atoms_spec (ws := wsX5_ifSpeed) B0.pre
  have hown : s.vm.findClass RX5 = some m.cls := findClass_of_methodNamed B0.named
  have hlocks := B0.notSynchronized
  have hF : CallFix p m c cX5_ifSpeed 4 s ([.ref (α 0), .int i, .int v, .int q] : List Value).toArray wsX5_ifSpeed RX5 := ⟨hx, hb, hml, hown, hts⟩
  have hS : va_S (A5 α) s.heap s.heap [] := va_S.rf
  have hl := lv_entry ([.ref (α 0), .int i, .int v, .int q]) (n := 4) (Nat.le_of_ble_eq_true rfl)
  rw [lg_entry_eq]
  generalize (lg_sl ([.ref (α 0), .int i, .int v, .int q]) ++ List.replicate (4 - (lg_sl ([.ref (α 0), .int i, .int v, .int q])).length) Slot.unset).toArray = ls at hl ⊢
  have hl : lv_has ls 4 [(0, .ref (α 0)), (1, .int i), (2, .int v), (3, .int q)] := hl
  refine lv_iload_n hx hb dX5_ifSpeed_0 rfl (lv_at hl 1 rfl) ?_
  refine dpx_Sv hF hK hN hE hZ ht9 hlocks (c_X5_needSet l hl9 D G i _) (va_cwS 1 hts gX5_ifSpeed_X5_needSet rfl rfl rfl (by decide +kernel) ⟨Nat.le_of_ble_eq_true rfl, Nat.le_of_ble_eq_true rfl⟩) hS [] rfl rfl hl.1 (Nat.le_of_ble_eq_true rfl) dX5_ifSpeed_1 ⟨Nat.le_of_ble_eq_true rfl, Nat.le_of_ble_eq_true rfl⟩ (fun E h => Or.inl ⟨h.1, by simp [cIf, nS_bad h.2]⟩) (fun H1 h q hq _ => h q hq) ⟨Nat.le_of_ble_eq_true rfl, Nat.le_of_ble_eq_true rfl⟩ (fun H1 locs hp _ _ hS => ?_)
  obtain ⟨rfl, j, hj, rfl⟩ := hp
  have hix : ix (nI j) = j := ix_nI (by omega)
  rw [hix] at hm2
  refine lv_iload_n hx hb dX5_ifSpeed_4 rfl (lv_at hl 2 rfl) ?_
  refine lv_sipush (v := 4700) hx hb dX5_ifSpeed_5 (by decide) ?_
  refine lv_sipush (v := 5300) hx hb dX5_ifSpeed_8 (by decide) ?_
  refine dpx_Sv hF hK hN hE hZ ht9 hlocks (c_X5_needRange l hl9 D G v 4700 5300 _) (va_cwS 3 hts gX5_ifSpeed_X5_needRange rfl rfl rfl (by decide +kernel) ⟨Nat.le_of_ble_eq_true rfl, Nat.le_of_ble_eq_true rfl⟩) hS [] rfl rfl hl.1 (Nat.le_of_ble_eq_true rfl) dX5_ifSpeed_11 ⟨Nat.le_of_ble_eq_true rfl, Nat.le_of_ble_eq_true rfl⟩ (fun E h => Or.inr ⟨h.1, by simp [cIf, nS_ok hj, hix, nR_bad h.2]⟩) (fun H1 h q hq _ => h q hq) ⟨Nat.le_of_ble_eq_true rfl, Nat.le_of_ble_eq_true rfl⟩ (fun H2 locs hp _ _ hS => ?_)
  obtain ⟨rfl, hr2⟩ := hp
  refine lv_iload_n hx hb dX5_ifSpeed_14 rfl (lv_at hl 3 rfl) ?_
  refine lv_iconst (v := 0) hx hb dX5_ifSpeed_15 (by decide) ?_
  refine lv_iconst (v := 2) hx hb dX5_ifSpeed_16 (by decide) ?_
  refine dpx_Sv hF hK hN hE hZ ht9 hlocks (c_X5_needRange l hl9 D G q 0 2 _) (va_cwS 3 hts gX5_ifSpeed_X5_needRange rfl rfl rfl (by decide +kernel) ⟨Nat.le_of_ble_eq_true rfl, Nat.le_of_ble_eq_true rfl⟩) hS [] rfl rfl hl.1 (Nat.le_of_ble_eq_true rfl) dX5_ifSpeed_17 ⟨Nat.le_of_ble_eq_true rfl, Nat.le_of_ble_eq_true rfl⟩ (fun E h => Or.inr ⟨h.1, by simp [cIf, nS_ok hj, hix, nR_ok hr2, nR_bad h.2]⟩) (fun H1 h q hq _ => h q hq) ⟨Nat.le_of_ble_eq_true rfl, Nat.le_of_ble_eq_true rfl⟩ (fun H3 locs hp _ _ hS => ?_)
  obtain ⟨rfl, hr3⟩ := hp
  refine lv_aload_n hx hb dX5_ifSpeed_20 rfl (lv_at hl 0 rfl) ?_
  refine lv_iload_n hx hb dX5_ifSpeed_21 rfl (lv_at hl 1 rfl) ?_
  refine lv_iload_n hx hb dX5_ifSpeed_22 rfl (lv_at hl 2 rfl) ?_
  refine lv_iload_n hx hb dX5_ifSpeed_23 rfl (lv_at hl 3 rfl) ?_
  refine dp_Vi hF hK hN (c_X5_tellIfSpeed l D G α w R RT RS kp sv n F len j v q _ hα hw hD hbz hm hn6 hl6 hj (hm2 (by simp [cIf, nS_ok hj, nR_ok hr2, nR_ok hr3]))) (cwV 3 hts gX5_ifSpeed_X5_tellIfSpeed rfl rfl rfl (by decide +kernel) ⟨Nat.le_of_ble_eq_true rfl, Nat.le_of_ble_eq_true rfl⟩) (dp_recv hK hD.1 rfl) hS (fun q hq => hq) [] rfl rfl hl.1 (Nat.le_of_ble_eq_true rfl) dX5_ifSpeed_24 ⟨Nat.le_of_ble_eq_true rfl, Nat.le_of_ble_eq_true rfl⟩ (fun rH4 H4 locs hp hzH4 hkH4 hS => ?_)
  obtain ⟨rfl, w, RT, hw, hD⟩ := hp
  refine W.widen (k := 3) (n := 18) (Nat.le_of_ble_eq_true rfl) (Nat.le_of_ble_eq_true rfl) ?_
  refine vx_ret ?_
  exact W.iret hx hb hr (fun t ht hW => ⟨⟨tif R j v q, H4, rfl, ⟨by simp [cIf, nS_ok hj, hix, nR_ok hr2, nR_ok hr3], by rw [hix], ⟨w, _, hw, hD⟩⟩, ht⟩, hS.F ht⟩) hS.2.2 dX5_ifSpeed_27

set_option maxHeartbeats 600000 in
set_option maxRecDepth 100000 in
theorem c_X5_switchFeeder (l : Launch) (D : va_G) (G : Nat → ClassId) (α : Nat → Nat) (w : Nat → Nat) (R RT RS : Nat → Int32) (kp : Int32) (sv : Nat → Nat → Int32) (n : Nat) (F : Nat → Int32) (len : Nat) (i q : Int32) (H : Heap) (hα : inj 115 α) (hw : pm w) (hD : DP D G α w R RT RS kp sv n F len H) (hbz : bz R) (hm : mono R) (hn6 : n ≤ 6) (hl6 : len ≤ 60) (hq : q = 0 ∨ q = 1) : Met l yX5_switchFeeder wsX5_switchFeeder ({ frames := 1, cells := 0, slots := 0, locals := 20 } : Room) (va_Pc [.ref (α 0), .int i, .int q] (CX D G H)) (QI (A5 α) (fun r h => (swf R i q).1 = r ∧ DW D G α (swf R i q).2 RS kp sv n F len h)) 0 0 (A5 α) := by
  refine Met.ofW (cc := cX5_switchFeeder) (maxL := 3) (ret := (some .boolean)) (by decide) rfl ?_
  intro p e s m args below meth c s₁ B0 hml hv
  obtain ⟨rfl, rfl, hK, hN⟩ := hv
  have hx := B0.exec
  have hb := B0.bytes
  have hr := B0.returns
  have hts := atoms_spec (ws := wsX5_switchFeeder) B0.pre
  have hown : s.vm.findClass RX5 = some m.cls := findClass_of_methodNamed B0.named
  have hlocks := B0.notSynchronized
  have hF : CallFix p m c cX5_switchFeeder 3 s ([.ref (α 0), .int i, .int q] : List Value).toArray wsX5_switchFeeder RX5 := ⟨hx, hb, hml, hown, hts⟩
  have hS : va_S (A5 α) s.heap s.heap [] := va_S.rf
  have hl := lv_entry ([.ref (α 0), .int i, .int q]) (n := 3) (Nat.le_of_ble_eq_true rfl)
  rw [lg_entry_eq]
  generalize (lg_sl ([.ref (α 0), .int i, .int q]) ++ List.replicate (3 - (lg_sl ([.ref (α 0), .int i, .int q])).length) Slot.unset).toArray = ls at hl ⊢
  have hl : lv_has ls 3 [(0, .ref (α 0)), (1, .int i), (2, .int q)] := hl
  refine lv_iload_n hx hb dX5_switchFeeder_0 rfl (lv_at hl 1 rfl) ?_
  refine dp_Si hF hK hN (c_X5_isFeeder l D G i _) (va_cwS 1 hts gX5_switchFeeder_X5_isFeeder rfl rfl rfl (by decide +kernel) ⟨Nat.le_of_ble_eq_true rfl, Nat.le_of_ble_eq_true rfl⟩) hS nA_i [] rfl rfl hl.1 (Nat.le_of_ble_eq_true rfl) dX5_switchFeeder_1 ⟨Nat.le_of_ble_eq_true rfl, Nat.le_of_ble_eq_true rfl⟩ (fun rH1 H1 locs hp hzH1 hkH1 hS => ?_)
  obtain ⟨rfl, rfl⟩ := hp
  refine lv_if_ne (tgt := 9) hx hb dX5_switchFeeder_4 (by decide) (fun c1 => ?_) (fun c1 => ?_)
  · obtain ⟨j, hj, rfl⟩ : ∃ j : Nat, j < 4 ∧ i = nI j := in_of (N := 4) (by decide) (fun q => c1 (by rw [if_pos q])) (fun q => c1 (by split; rfl; rw [if_pos (show (4 : Int32) ≤ _ from q)]))
    have hix : ix (nI j) = j := ix_nI (by omega)
    refine lv_aload_n hx hb dX5_switchFeeder_9 rfl (lv_at hl 0 rfl) ?_
    refine dp_get hx hb hts (dp_hin 8 rfl) hown hK hD.1 rfl 0 (by decide) (hts (.fieldLink RX5 10 "DroopBoard" "board" "LDroopBoard$Board;") (List.mem_of_getElem? (i := 1) rfl)) rfl dX5_switchFeeder_10 ?_
    refine dp_get hx hb hts (dp_hin 14 rfl) hown hK hD.2.1.1 rfl 1 (by decide) (hts (.fieldLink RX5 119 "DroopBoard$Board" "feeders" "[LDroopBoard$Feeder;") (List.mem_of_getElem? (i := 2) rfl)) rfl dX5_switchFeeder_13 ?_
    refine lv_iload_n hx hb dX5_switchFeeder_16 rfl (lv_at hl 1 rfl) ?_
    refine dp_aald hx hb hK hD.2.1.2.2.1 2 rfl j rfl hj (by decide) rfl dX5_switchFeeder_17 ?_
    refine lv_iload_n hx hb dX5_switchFeeder_18 rfl (lv_at hl 2 rfl) ?_
    refine dp_put (A := A5 α) (v := .int q) hx hb hts (dp_hin 19 rfl) tyX2 tyX2_ok nmX2 hown hK (hD.2.1.2.2.2.2.2 j hj) (A5_b (j := 0) (by omega) _ ⟨7 + j, by omega, rfl⟩) hS rfl 1 (by decide) (hts (.fieldLink RX5 128 "DroopBoard$Feeder" "on" "Z") (List.mem_of_getElem? (i := 3) rfl)) rfl (nz_n hq) (nz_f hq) (Nat.le_of_ble_eq_true rfl) dX5_switchFeeder_19 (fun H2 locs hH2 hzH2 hkH2 hS => ?_)
    have hB9 : BD D G (aB α 0) (upd R (39 + 3 * j) q) H2 := BD.putF (k := 1) (by omega) hD.2.1 (aB_inj hα (by omega)) hj hH2 hkH2
    have hD := hD.board (A := fun q => q = (aB α 0) (7 + j)) hα hw hB9 (fun q hq => ⟨7 + j, by omega, hq⟩) (fun q _ hne => hkH2 q hne)
    refine lv_iconst (v := 1) hx hb dX5_switchFeeder_22 (by decide) ?_
    have e9 : swf R (nI j) q = (1, upd R (39 + 3 * j) q) := by simp [swf, nF_ok hj, hix]
    exact W.zret (ty := .boolean) hx hb hr rfl (fun t ht hW => ⟨⟨1, H2, rfl, ⟨by rw [e9], by rw [e9]; exact ⟨w, _, hw, hD⟩⟩, ht⟩, hS.F ht⟩) hS.2.2 dX5_switchFeeder_23
  refine lv_iconst (v := 0) hx hb dX5_switchFeeder_7 (by decide) ?_
  have e9 : swf R i q = (0, R) := by simp [swf, nF_bad (by by_cases q : i < 0; exact Or.inl q; by_cases q2 : 4 ≤ i; exact Or.inr q2; rw [if_neg q, if_neg q2] at c1; exact absurd c1 (by decide))]
  exact W.zret (ty := .boolean) hx hb hr rfl (fun t ht hW => ⟨⟨0, s.heap, rfl, ⟨by rw [e9], by rw [e9]; exact ⟨w, _, hw, hD⟩⟩, ht⟩, hS.F ht⟩) hS.2.2 dX5_switchFeeder_8

set_option maxHeartbeats 600000 in
set_option maxRecDepth 100000 in
theorem c_X5_commandSet (l : Launch) (D : va_G) (G : Nat → ClassId) (α : Nat → Nat) (w : Nat → Nat) (R RT RS : Nat → Int32) (kp : Int32) (sv : Nat → Nat → Int32) (n : Nat) (F : Nat → Int32) (len : Nat) (ch : Int32) (j : Nat) (H : Heap) (hα : inj 115 α) (hw : pm w) (hD : DP D G α w R RT RS kp sv n F len H) (hbz : bz R) (hm : mono R) (hn6 : n ≤ 6) (hl6 : len ≤ 60) (hj : j < 3) : Met l yX5_commandSet wsX5_commandSet ({ frames := 4, cells := 0, slots := 0, locals := 91 } : Room) (va_Pc [.ref (α 0), .int ch, .int (nI j)] (CX D G H)) (QI (A5 α) (fun r h => (cmd R ch j).1 = r ∧ DW D G α (cmd R ch j).2 RS kp sv n F len h)) 0 0 (A5 α) := by
  refine Met.ofW (cc := cX5_commandSet) (maxL := 4) (ret := (some .boolean)) (by decide) rfl ?_
  intro p e s m args below meth c s₁ B0 hml hv
  obtain ⟨rfl, rfl, hK, hN⟩ := hv
  have hx := B0.exec
  have hb := B0.bytes
  have hr := B0.returns
  have hts := atoms_spec (ws := wsX5_commandSet) B0.pre
  have hown : s.vm.findClass RX5 = some m.cls := findClass_of_methodNamed B0.named
  have hlocks := B0.notSynchronized
  have hF : CallFix p m c cX5_commandSet 4 s ([.ref (α 0), .int ch, .int (nI j)] : List Value).toArray wsX5_commandSet RX5 := ⟨hx, hb, hml, hown, hts⟩
  have hS : va_S (A5 α) s.heap s.heap [] := va_S.rf
  have hl := lv_entry ([.ref (α 0), .int ch, .int (nI j)]) (n := 4) (Nat.le_of_ble_eq_true rfl)
  rw [lg_entry_eq]
  generalize (lg_sl ([.ref (α 0), .int ch, .int (nI j)]) ++ List.replicate (4 - (lg_sl ([.ref (α 0), .int ch, .int (nI j)])).length) Slot.unset).toArray = ls at hl ⊢
  have hl : lv_has ls 4 [(0, .ref (α 0)), (1, .int ch), (2, .int (nI j))] := hl
  refine lv_aload_n hx hb dX5_commandSet_0 rfl (lv_at hl 0 rfl) ?_
  refine dp_get hx hb hts (dp_hin 85 rfl) hown hK hD.1 rfl 0 (by decide) (hts (.fieldLink RX5 10 "DroopBoard" "board" "LDroopBoard$Board;") (List.mem_of_getElem? (i := 1) rfl)) rfl dX5_commandSet_1 ?_
  refine dp_get hx hb hts (dp_hin 91 rfl) hown hK hD.2.1.1 rfl 0 (by decide) (hts (.fieldLink RX5 44 "DroopBoard$Board" "diesels" "[LDroopBoard$Diesel;") (List.mem_of_getElem? (i := 2) rfl)) rfl dX5_commandSet_4 ?_
  refine lv_iload_n hx hb dX5_commandSet_7 rfl (lv_at hl 2 rfl) ?_
  refine dp_aald hx hb hK hD.2.1.2.1 1 rfl j rfl hj (by decide) rfl dX5_commandSet_8 ?_
  refine lv_astore_n (lv' := [(3, .ref ((aB α 0) (4 + j))), (0, .ref (α 0)), (1, .int ch), (2, .int (nI j))]) hx hb dX5_commandSet_9 rfl hl (by decide) rfl (fun ls hl => ?_)
  refine lv_iload_n hx hb dX5_commandSet_10 rfl (lv_at hl 2 rfl) ?_
  by_cases e1 : ch = 99
  · refine lv_lookup (off := 63) (tgt := 74) hx hb dX5_commandSet_11 (by decide) (by rw [e1]; decide) (by decide) ?_
    refine lv_aload_n hx hb dX5_commandSet_74 rfl (lv_at hl 1 rfl) ?_
    refine dp_get hx hb hts (dp_hin 85 rfl) hown hK hD.1 rfl 0 (by decide) (hts (.fieldLink RX5 10 "DroopBoard" "board" "LDroopBoard$Board;") (List.mem_of_getElem? (i := 1) rfl)) rfl dX5_commandSet_75 ?_
    refine lv_iload_n hx hb dX5_commandSet_78 rfl (lv_at hl 3 rfl) ?_
    refine dp_Vi hF hK hN (c_X0_whyNotClosed l D G (aB α 0) R j _ hD.2.1 hj hm) (cwV 1 hts gX5_commandSet_X0_whyNotClosed rfl rfl rfl (by decide +kernel) ⟨Nat.le_of_ble_eq_true rfl, Nat.le_of_ble_eq_true rfl⟩) (dp_recv hK hD.2.1.1 rfl) hS nA_i [] rfl rfl hl.1 (Nat.le_of_ble_eq_true rfl) dX5_commandSet_79 ⟨Nat.le_of_ble_eq_true rfl, Nat.le_of_ble_eq_true rfl⟩ (fun rH1 H1 locs hp hzH1 hkH1 hS => ?_)
    obtain ⟨rfl, rfl⟩ := hp
    refine lv_if_eq (tgt := 87) hx hb dX5_commandSet_82 (by decide) (fun c2 => ?_) (fun c2 => ?_)
    · refine lv_aload_n hx hb dX5_commandSet_87 rfl (lv_at hl 0 rfl) ?_
      refine dp_Vv hF hK hN (c_X1_closeBreaker l D G (aB α 0 (4 + j)) j R _ (hD.2.1.2.2.2.2.1 j hj)) (cwV 0 hts gX5_commandSet_X1_closeBreaker rfl rfl rfl (by decide +kernel) ⟨Nat.le_of_ble_eq_true rfl, Nat.le_of_ble_eq_true rfl⟩) (dp_recv hK (hD.2.1.2.2.2.2.1 j hj) rfl) hS (fun q hq => A5_b (j := 0) (by omega) q ⟨4 + j, by omega, hq⟩) [] rfl rfl hl.1 (Nat.le_of_ble_eq_true rfl) dX5_commandSet_88 ⟨Nat.le_of_ble_eq_true rfl, Nat.le_of_ble_eq_true rfl⟩ (fun H2 locs hp hzH2 hkH2 hS => ?_)
      obtain ⟨hz9, hc9⟩ := hp
      have hB9 := hD.2.1.rstD (k := 12) (Or.inr rfl) (aB_inj hα (by omega)) hj hc9 hkH2
      have hD := hD.board hα hw hB9 (fun q hq => ⟨4 + j, by omega, hq⟩) hkH2
      refine lv_iconst (v := 1) hx hb dX5_commandSet_91 (by decide) ?_
      have e9 : cmd R ch j = (1, rst (upd R (12 + 10 * j) 1) j) := by first | (simp [cmd, e1, c2]; done) | (simp [cmd, e1]; exact c2)
      exact W.zret (ty := .boolean) hx hb hr rfl (fun t ht hW => ⟨⟨1, H2, rfl, ⟨by rw [e9], by rw [e9]; exact ⟨w, _, hw, hD⟩⟩, ht⟩, hS.F ht⟩) hS.2.2 dX5_commandSet_92
    refine lv_iconst (v := 0) hx hb dX5_commandSet_85 (by decide) ?_
    have e9 : cmd R ch j = (0, R) := by first | (simp [cmd, e1, c2]; done) | (simp [cmd, e1]; exact c2)
    exact W.zret (ty := .boolean) hx hb hr rfl (fun t ht hW => ⟨⟨0, s.heap, rfl, ⟨by rw [e9], by rw [e9]; exact ⟨w, _, hw, hD⟩⟩, ht⟩, hS.F ht⟩) hS.2.2 dX5_commandSet_86
  by_cases e3 : ch = 104
  · refine lv_lookup (off := 48) (tgt := 59) hx hb dX5_commandSet_11 (by decide) (by rw [e3]; decide) (by decide) ?_
    refine lv_aload_n hx hb dX5_commandSet_59 rfl (lv_at hl 0 rfl) ?_
    refine dp_Vi hF hK hN (c_X1_canStop l D G (aB α 0 (4 + j)) j R _ (hD.2.1.2.2.2.2.1 j hj)) (cwV 0 hts gX5_commandSet_X1_canStop rfl rfl rfl (by decide +kernel) ⟨Nat.le_of_ble_eq_true rfl, Nat.le_of_ble_eq_true rfl⟩) (dp_recv hK (hD.2.1.2.2.2.2.1 j hj) rfl) hS nA_i [] rfl rfl hl.1 (Nat.le_of_ble_eq_true rfl) dX5_commandSet_60 ⟨Nat.le_of_ble_eq_true rfl, Nat.le_of_ble_eq_true rfl⟩ (fun rH3 H3 locs hp hzH3 hkH3 hS => ?_)
    obtain ⟨rfl, rfl⟩ := hp
    refine lv_if_ne (tgt := 68) hx hb dX5_commandSet_63 (by decide) (fun c4 => ?_) (fun c4 => ?_)
    · simp at c4
      refine lv_aload_n hx hb dX5_commandSet_68 rfl (lv_at hl 0 rfl) ?_
      refine dp_Vv hF hK hN (c_X1_stop l D G (aB α 0 (4 + j)) j R _ (hD.2.1.2.2.2.2.1 j hj)) (cwV 0 hts gX5_commandSet_X1_stop rfl rfl rfl (by decide +kernel) ⟨Nat.le_of_ble_eq_true rfl, Nat.le_of_ble_eq_true rfl⟩) (dp_recv hK (hD.2.1.2.2.2.2.1 j hj) rfl) hS (fun q hq => A5_b (j := 0) (by omega) q ⟨4 + j, by omega, hq⟩) [] rfl rfl hl.1 (Nat.le_of_ble_eq_true rfl) dX5_commandSet_69 ⟨Nat.le_of_ble_eq_true rfl, Nat.le_of_ble_eq_true rfl⟩ (fun H4 locs hp hzH4 hkH4 hS => ?_)
      obtain ⟨hz9, hc9⟩ := hp
      have hB9 := hD.2.1.rstD (k := 11) (Or.inl rfl) (aB_inj hα (by omega)) hj hc9 hkH4
      have hD := hD.board hα hw hB9 (fun q hq => ⟨4 + j, by omega, hq⟩) hkH4
      refine lv_iconst (v := 1) hx hb dX5_commandSet_72 (by decide) ?_
      have e9 : cmd R ch j = (1, rst (upd R (11 + 10 * j) 0) j) := by first | (simp [cmd, e1, e3, c4]; done) | (simp [cmd, e1, e3]; exact c4)
      exact W.zret (ty := .boolean) hx hb hr rfl (fun t ht hW => ⟨⟨1, H4, rfl, ⟨by rw [e9], by rw [e9]; exact ⟨w, _, hw, hD⟩⟩, ht⟩, hS.F ht⟩) hS.2.2 dX5_commandSet_73
    simp at c4
    refine lv_iconst (v := 0) hx hb dX5_commandSet_66 (by decide) ?_
    have e9 : cmd R ch j = (0, R) := by first | (simp [cmd, e1, e3, c4]; done) | (simp [cmd, e1, e3]; exact c4)
    exact W.zret (ty := .boolean) hx hb hr rfl (fun t ht hW => ⟨⟨0, s.heap, rfl, ⟨by rw [e9], by rw [e9]; exact ⟨w, _, hw, hD⟩⟩, ht⟩, hS.F ht⟩) hS.2.2 dX5_commandSet_67
  by_cases e5 : ch = 114
  · refine lv_lookup (off := 33) (tgt := 44) hx hb dX5_commandSet_11 (by decide) (by rw [e5]; decide) (by decide) ?_
    refine lv_aload_n hx hb dX5_commandSet_44 rfl (lv_at hl 0 rfl) ?_
    refine dp_Vi hF hK hN (c_X1_canStart l D G (aB α 0 (4 + j)) j R _ (hD.2.1.2.2.2.2.1 j hj)) (cwV 0 hts gX5_commandSet_X1_canStart rfl rfl rfl (by decide +kernel) ⟨Nat.le_of_ble_eq_true rfl, Nat.le_of_ble_eq_true rfl⟩) (dp_recv hK (hD.2.1.2.2.2.2.1 j hj) rfl) hS nA_i [] rfl rfl hl.1 (Nat.le_of_ble_eq_true rfl) dX5_commandSet_45 ⟨Nat.le_of_ble_eq_true rfl, Nat.le_of_ble_eq_true rfl⟩ (fun rH5 H5 locs hp hzH5 hkH5 hS => ?_)
    obtain ⟨rfl, rfl⟩ := hp
    refine lv_if_ne (tgt := 53) hx hb dX5_commandSet_48 (by decide) (fun c6 => ?_) (fun c6 => ?_)
    · simp at c6
      refine lv_aload_n hx hb dX5_commandSet_53 rfl (lv_at hl 0 rfl) ?_
      refine dp_Vv hF hK hN (c_X1_start l D G (aB α 0 (4 + j)) j R _ (hD.2.1.2.2.2.2.1 j hj)) (cwV 0 hts gX5_commandSet_X1_start rfl rfl rfl (by decide +kernel) ⟨Nat.le_of_ble_eq_true rfl, Nat.le_of_ble_eq_true rfl⟩) (dp_recv hK (hD.2.1.2.2.2.2.1 j hj) rfl) hS (fun q hq => A5_b (j := 0) (by omega) q ⟨4 + j, by omega, hq⟩) [] rfl rfl hl.1 (Nat.le_of_ble_eq_true rfl) dX5_commandSet_54 ⟨Nat.le_of_ble_eq_true rfl, Nat.le_of_ble_eq_true rfl⟩ (fun H6 locs hp hzH6 hkH6 hS => ?_)
      obtain ⟨hz9, hc9⟩ := hp
      have hB9 := hD.2.1.rstD (k := 11) (Or.inl rfl) (aB_inj hα (by omega)) hj hc9 hkH6
      have hD := hD.board hα hw hB9 (fun q hq => ⟨4 + j, by omega, hq⟩) hkH6
      refine lv_iconst (v := 1) hx hb dX5_commandSet_57 (by decide) ?_
      have e9 : cmd R ch j = (1, rst (upd R (11 + 10 * j) 1) j) := by first | (simp [cmd, e1, e3, e5, c6]; done) | (simp [cmd, e1, e3, e5]; exact c6)
      exact W.zret (ty := .boolean) hx hb hr rfl (fun t ht hW => ⟨⟨1, H6, rfl, ⟨by rw [e9], by rw [e9]; exact ⟨w, _, hw, hD⟩⟩, ht⟩, hS.F ht⟩) hS.2.2 dX5_commandSet_58
    simp at c6
    refine lv_iconst (v := 0) hx hb dX5_commandSet_51 (by decide) ?_
    have e9 : cmd R ch j = (0, R) := by first | (simp [cmd, e1, e3, e5, c6]; done) | (simp [cmd, e1, e3, e5]; exact c6)
    exact W.zret (ty := .boolean) hx hb hr rfl (fun t ht hW => ⟨⟨0, s.heap, rfl, ⟨by rw [e9], by rw [e9]; exact ⟨w, _, hw, hD⟩⟩, ht⟩, hS.F ht⟩) hS.2.2 dX5_commandSet_52
  refine lv_lookup (off := 82) (tgt := 93) hx hb dX5_commandSet_11 (by decide) (by rw [lv_osw e1 (by decide), lv_osw e3 (by decide), lv_osw e5 (by decide)]; rfl) (by decide) ?_
  refine lv_aload_n hx hb dX5_commandSet_93 rfl (lv_at hl 0 rfl) ?_
  refine dp_get hx hb hts (dp_hin 96 rfl) hown hK (hD.2.1.2.2.2.2.1 j hj) rfl 4 (by decide) (hts (.fieldLink RX5 108 "DroopBoard$Diesel" "closed" "Z") (List.mem_of_getElem? (i := 3) rfl)) rfl dX5_commandSet_94 ?_
  refine lv_if_ne (tgt := 102) hx hb dX5_commandSet_97 (by decide) (fun c7 => ?_) (fun c7 => ?_)
  · refine lv_aload_n hx hb dX5_commandSet_102 rfl (lv_at hl 0 rfl) ?_
    refine dp_Vv hF hK hN (c_X1_openBreaker l D G (aB α 0 (4 + j)) j R _ (hD.2.1.2.2.2.2.1 j hj)) (cwV 0 hts gX5_commandSet_X1_openBreaker rfl rfl rfl (by decide +kernel) ⟨Nat.le_of_ble_eq_true rfl, Nat.le_of_ble_eq_true rfl⟩) (dp_recv hK (hD.2.1.2.2.2.2.1 j hj) rfl) hS (fun q hq => A5_b (j := 0) (by omega) q ⟨4 + j, by omega, hq⟩) [] rfl rfl hl.1 (Nat.le_of_ble_eq_true rfl) dX5_commandSet_103 ⟨Nat.le_of_ble_eq_true rfl, Nat.le_of_ble_eq_true rfl⟩ (fun H7 locs hp hzH7 hkH7 hS => ?_)
    obtain ⟨hz9, hc9⟩ := hp
    have hB9 := hD.2.1.rstD (k := 12) (Or.inr rfl) (aB_inj hα (by omega)) hj hc9 hkH7
    have hD := hD.board hα hw hB9 (fun q hq => ⟨4 + j, by omega, hq⟩) hkH7
    refine lv_iconst (v := 1) hx hb dX5_commandSet_106 (by decide) ?_
    have e9 : cmd R ch j = (1, rst (upd R (12 + 10 * j) 0) j) := by first | (simp [cmd, e1, e3, e5, c7]; done) | (simp [cmd, e1, e3, e5]; exact c7)
    exact W.zret (ty := .boolean) hx hb hr rfl (fun t ht hW => ⟨⟨1, H7, rfl, ⟨by rw [e9], by rw [e9]; exact ⟨w, _, hw, hD⟩⟩, ht⟩, hS.F ht⟩) hS.2.2 dX5_commandSet_107
  refine lv_iconst (v := 0) hx hb dX5_commandSet_100 (by decide) ?_
  have e9 : cmd R ch j = (0, R) := by first | (simp [cmd, e1, e3, e5, c7]; done) | (simp [cmd, e1, e3, e5]; exact c7)
  exact W.zret (ty := .boolean) hx hb hr rfl (fun t ht hW => ⟨⟨0, s.heap, rfl, ⟨by rw [e9], by rw [e9]; exact ⟨w, _, hw, hD⟩⟩, ht⟩, hS.F ht⟩) hS.2.2 dX5_commandSet_101

set_option maxHeartbeats 600000 in
set_option maxRecDepth 100000 in
theorem c_X5_carryOut (l : Launch) (D : va_G) (G : Nat → ClassId) (α : Nat → Nat) (w : Nat → Nat) (R RT RS : Nat → Int32) (kp : Int32) (sv : Nat → Nat → Int32) (n : Nat) (F : Nat → Int32) (len : Nat) (a e9 : Nat) (H : Heap) (hα : inj 115 α) (hw : pm w) (hD : DP D G α w R RT RS kp sv n F len H) (hbz : bz R) (hm : mono R) (hn6 : n ≤ 6) (hl6 : len ≤ 60) (ha : a < len) (hc : a + 1 ≤ e9) (he : e9 ≤ 60) (hs : cod F len a = 115 → a + 3 ≤ e9) (ht : cod F len a = 116 → ∃ j, j ≤ 99 ∧ nmb F len (a + 1) (e9 - (a + 1)) = nI j ∧ ∀ k, k < j → mono (pt R k)) : Met l yX5_carryOut wsX5_carryOut ({ frames := 5, cells := 0, slots := 0, locals := 115 } : Room) (va_Pc [.ref (α 0), .int (nI a), .int (nI e9)] (CX D G H)) (QI (A5 α) (fun r h => (car R F len a e9).1 = r ∧ DW D G α (car R F len a e9).2 RS kp sv n F len h)) 0 0 (A5 α) := by
  refine Met.ofW (cc := cX5_carryOut) (maxL := 5) (ret := (some .boolean)) (by decide) rfl ?_
  intro p e s m args below meth c s₁ B0 hml hv
  obtain ⟨rfl, rfl, hK, hN⟩ := hv
  have hx := B0.exec
  have hb := B0.bytes
  have hr := B0.returns
  have hts := atoms_spec (ws := wsX5_carryOut) B0.pre
  have hown : s.vm.findClass RX5 = some m.cls := findClass_of_methodNamed B0.named
  have hlocks := B0.notSynchronized
  have hF : CallFix p m c cX5_carryOut 5 s ([.ref (α 0), .int (nI a), .int (nI e9)] : List Value).toArray wsX5_carryOut RX5 := ⟨hx, hb, hml, hown, hts⟩
  have hS : va_S (A5 α) s.heap s.heap [] := va_S.rf
  have hl := lv_entry ([.ref (α 0), .int (nI a), .int (nI e9)]) (n := 5) (Nat.le_of_ble_eq_true rfl)
  rw [lg_entry_eq]
  generalize (lg_sl ([.ref (α 0), .int (nI a), .int (nI e9)]) ++ List.replicate (5 - (lg_sl ([.ref (α 0), .int (nI a), .int (nI e9)])).length) Slot.unset).toArray = ls at hl ⊢
  have hl : lv_has ls 5 [(0, .ref (α 0)), (1, .int (nI a)), (2, .int (nI e9))] := hl
  refine lv_aload_n hx hb dX5_carryOut_0 rfl (lv_at hl 0 rfl) ?_
  refine dp_get hx hb hts (dp_hin 163 rfl) hown hK hD.1 rfl 5 (by decide) (hts (.fieldLink RX5 32 "DroopBoard" "text" "LDroopBoard$OrderText;") (List.mem_of_getElem? (i := 1) rfl)) rfl dX5_carryOut_1 ?_
  refine lv_iload_n hx hb dX5_carryOut_4 rfl (lv_at hl 1 rfl) ?_
  refine dp_Vi hF hK hN (c_X4_codeAt l D G (tx α) F len a _ hD.2.2.2.2.2 hl6 (by omega)) (cwV 1 hts gX5_carryOut_X4_codeAt rfl rfl rfl (by decide +kernel) ⟨Nat.le_of_ble_eq_true rfl, Nat.le_of_ble_eq_true rfl⟩) (dp_recv hK hD.2.2.2.2.2.1 rfl) hS nA_i [] rfl rfl hl.1 (Nat.le_of_ble_eq_true rfl) dX5_carryOut_5 ⟨Nat.le_of_ble_eq_true rfl, Nat.le_of_ble_eq_true rfl⟩ (fun rH1 H1 locs hp hzH1 hkH1 hS => ?_)
  obtain ⟨rfl, rfl⟩ := hp
  refine lv_istore_n (lv' := [(3, .int (cod F len a)), (0, .ref (α 0)), (1, .int (nI a)), (2, .int (nI e9))]) hx hb dX5_carryOut_8 rfl hl (by decide) rfl (fun ls hl => ?_)
  refine lv_iload_n hx hb dX5_carryOut_9 rfl (lv_at hl 0 rfl) ?_
  refine lv_bipush (v := 116) hx hb dX5_carryOut_10 (by decide) ?_
  refine lv_icmp_ne (tgt := 36) hx hb dX5_carryOut_12 (by decide) (fun c1 => ?_) (fun c1 => ?_)
  · refine lv_aload_n hx hb dX5_carryOut_36 rfl (lv_at hl 1 rfl) ?_
    refine dp_get hx hb hts (dp_hin 163 rfl) hown hK hD.1 rfl 5 (by decide) (hts (.fieldLink RX5 32 "DroopBoard" "text" "LDroopBoard$OrderText;") (List.mem_of_getElem? (i := 1) rfl)) rfl dX5_carryOut_37 ?_
    refine lv_iload_n hx hb dX5_carryOut_40 rfl (lv_at hl 2 rfl) ?_
    refine lv_iconst (v := 1) hx hb dX5_carryOut_41 (by decide) ?_
    refine lv_iadd hx hb dX5_carryOut_42 ?_
    rw [nI_1 a]
    refine lv_iload_n hx hb dX5_carryOut_43 rfl (lv_at hl 2 rfl) ?_
    refine lv_iconst (v := 2) hx hb dX5_carryOut_44 (by decide) ?_
    refine lv_iadd hx hb dX5_carryOut_45 ?_
    rw [nI_2 a]
    refine dp_Vi hF hK hN (c_X4_number l D G (tx α) F len (a + 1) 1 _ hD.2.2.2.2.2 hl6 (by omega)) (cwV 2 hts gX5_carryOut_X4_number rfl rfl rfl (by decide +kernel) ⟨Nat.le_of_ble_eq_true rfl, Nat.le_of_ble_eq_true rfl⟩) (dp_recv hK hD.2.2.2.2.2.1 rfl) hS nA_i [] rfl rfl hl.1 (Nat.le_of_ble_eq_true rfl) dX5_carryOut_46 ⟨Nat.le_of_ble_eq_true rfl, Nat.le_of_ble_eq_true rfl⟩ (fun rH2 H2 locs hp hzH2 hkH2 hS => ?_)
    obtain ⟨rfl, rfl⟩ := hp
    refine lv_istore (lv' := [(4, .int (nmb F len (a + 1) 1)), (3, .int (cod F len a)), (0, .ref (α 0)), (1, .int (nI a)), (2, .int (nI e9))]) hx hb dX5_carryOut_49 hl (by decide) rfl (fun ls hl => ?_)
    refine lv_iload_n hx hb dX5_carryOut_51 rfl (lv_at hl 1 rfl) ?_
    refine lv_bipush (v := 102) hx hb dX5_carryOut_52 (by decide) ?_
    refine lv_icmp_ne (tgt := 84) hx hb dX5_carryOut_54 (by decide) (fun c2 => ?_) (fun c2 => ?_)
    · refine lv_iload hx hb dX5_carryOut_84 (lv_at hl 0 rfl) ?_
      refine dp_Si hF hK hN (c_X5_isSet l D G (nmb F len (a + 1) 1) _) (va_cwS 1 hts gX5_carryOut_X5_isSet rfl rfl rfl (by decide +kernel) ⟨Nat.le_of_ble_eq_true rfl, Nat.le_of_ble_eq_true rfl⟩) hS nA_i [] rfl rfl hl.1 (Nat.le_of_ble_eq_true rfl) dX5_carryOut_86 ⟨Nat.le_of_ble_eq_true rfl, Nat.le_of_ble_eq_true rfl⟩ (fun rH3 H3 locs hp hzH3 hkH3 hS => ?_)
      obtain ⟨rfl, rfl⟩ := hp
      refine lv_if_ne (tgt := 94) hx hb dX5_carryOut_89 (by decide) (fun c3 => ?_) (fun c3 => ?_)
      · obtain ⟨j, hj, hwj⟩ : ∃ j : Nat, j < 3 ∧ nmb F len (a + 1) 1 = nI j := in_of (N := 3) (by decide) (fun q => c3 (by rw [if_pos q])) (fun q => c3 (by split; rfl; rw [if_pos (show (3 : Int32) ≤ _ from q)]))
        have hix : ix (nI j) = j := ix_nI (by omega)
        have hcar : nS (nmb F len (a + 1) 1) 0 = 0 := by rw [hwj]; exact nS_ok hj
        rw [hwj] at hl
        refine lv_iload_n hx hb dX5_carryOut_94 rfl (lv_at hl 1 rfl) ?_
        refine lv_bipush (v := 115) hx hb dX5_carryOut_95 (by decide) ?_
        refine lv_icmp_ne (tgt := 126) hx hb dX5_carryOut_97 (by decide) (fun c4 => ?_) (fun c4 => ?_)
        · refine lv_aload_n hx hb dX5_carryOut_126 rfl (lv_at hl 2 rfl) ?_
          refine lv_iload_n hx hb dX5_carryOut_127 rfl (lv_at hl 1 rfl) ?_
          refine lv_iload hx hb dX5_carryOut_128 (lv_at hl 0 rfl) ?_
          refine dp_Vi hF hK hN (c_X5_commandSet l D G α w R RT RS kp sv n F len (cod F len a) j _ hα hw hD hbz hm hn6 hl6 hj) (cwV 2 hts gX5_carryOut_X5_commandSet rfl rfl rfl (by decide +kernel) ⟨Nat.le_of_ble_eq_true rfl, Nat.le_of_ble_eq_true rfl⟩) (dp_recv hK hD.1 rfl) hS (fun q hq => hq) [] rfl rfl hl.1 (Nat.le_of_ble_eq_true rfl) dX5_carryOut_130 ⟨Nat.le_of_ble_eq_true rfl, Nat.le_of_ble_eq_true rfl⟩ (fun rH4 H4 locs hp hzH4 hkH4 hS => ?_)
          obtain ⟨rfl, w, RT, hw, hD⟩ := hp
          have e8 : car R F len a e9 = cmd R (cod F len a) j := by rw [car, if_neg c1, if_neg c2, if_pos hcar, if_neg c4, hwj, hix]
          exact W.zret (ty := .boolean) hx hb hr (nz_n (cmd_01 _ _ _)) (fun t ht hW => ⟨⟨(cmd R (cod F len a) j).1, H4, rfl, ⟨by rw [e8], by rw [e8]; exact ⟨w, _, hw, hD⟩⟩, ht⟩, hS.F ht⟩) hS.2.2 dX5_carryOut_133
        obtain ⟨t, rfl⟩ : ∃ t, e9 = a + 3 + t := ⟨e9 - (a + 3), by have := hs c4; omega⟩
        refine lv_aload_n hx hb dX5_carryOut_100 rfl (lv_at hl 2 rfl) ?_
        refine dp_get hx hb hts (dp_hin 163 rfl) hown hK hD.1 rfl 0 (by decide) (hts (.fieldLink RX5 10 "DroopBoard" "board" "LDroopBoard$Board;") (List.mem_of_getElem? (i := 2) rfl)) rfl dX5_carryOut_101 ?_
        refine dp_get hx hb hts (dp_hin 169 rfl) hown hK hD.2.1.1 rfl 0 (by decide) (hts (.fieldLink RX5 44 "DroopBoard$Board" "diesels" "[LDroopBoard$Diesel;") (List.mem_of_getElem? (i := 3) rfl)) rfl dX5_carryOut_104 ?_
        refine lv_iload hx hb dX5_carryOut_107 (lv_at hl 0 rfl) ?_
        refine dp_aald hx hb hK hD.2.1.2.1 1 rfl j rfl hj (by decide) rfl dX5_carryOut_109 ?_
        refine lv_aload_n hx hb dX5_carryOut_110 rfl (lv_at hl 2 rfl) ?_
        refine dp_get hx hb hts (dp_hin 163 rfl) hown hK hD.1 rfl 5 (by decide) (hts (.fieldLink RX5 32 "DroopBoard" "text" "LDroopBoard$OrderText;") (List.mem_of_getElem? (i := 1) rfl)) rfl dX5_carryOut_111 ?_
        refine lv_iload_n hx hb dX5_carryOut_114 rfl (lv_at hl 3 rfl) ?_
        refine lv_iconst (v := 3) hx hb dX5_carryOut_115 (by decide) ?_
        refine lv_iadd hx hb dX5_carryOut_116 ?_
        rw [nI_3 a]
        refine lv_iload_n hx hb dX5_carryOut_117 rfl (lv_at hl 4 rfl) ?_
        refine dp_Vi hF hK hN (c_X4_number l D G (tx α) F len (a + 3) t _ hD.2.2.2.2.2 hl6 (by omega)) (cwV 2 hts gX5_carryOut_X4_number rfl rfl rfl (by decide +kernel) ⟨Nat.le_of_ble_eq_true rfl, Nat.le_of_ble_eq_true rfl⟩) (dp_recv hK hD.2.2.2.2.2.1 rfl) hS nA_i [.ref ((aB α 0) (4 + j))] rfl rfl hl.1 (Nat.le_of_ble_eq_true rfl) dX5_carryOut_118 ⟨Nat.le_of_ble_eq_true rfl, Nat.le_of_ble_eq_true rfl⟩ (fun rH5 H5 locs hp hzH5 hkH5 hS => ?_)
        obtain ⟨rfl, rfl⟩ := hp
        refine dp_put (A := A5 α) (v := .int (nmb F len (a + 3) t)) hx hb hts (dp_hin 174 rfl) tyX1 tyX1_ok nmX1 hown hK (hD.2.1.2.2.2.2.1 j hj) (A5_b (j := 0) (by omega) _ ⟨4 + j, by omega, rfl⟩) hS rfl 2 (by decide) (hts (.fieldLink RX5 72 "DroopBoard$Diesel" "speed" "I") (List.mem_of_getElem? (i := 4) rfl)) rfl rfl rfl (Nat.le_of_ble_eq_true rfl) dX5_carryOut_121 (fun H6 locs hH6 hzH6 hkH6 hS => ?_)
        have hB9 : BD D G (aB α 0) (upd R (10 + 10 * j) (nmb F len (a + 3) t)) H6 := BD.putD (k := 2) (by omega) hD.2.1 (aB_inj hα (by omega)) hj hH6 hkH6
        have hD := hD.board (A := fun q => q = (aB α 0) (4 + j)) hα hw hB9 (fun q hq => ⟨4 + j, by omega, hq⟩) (fun q _ hne => hkH6 q hne)
        refine lv_iconst (v := 1) hx hb dX5_carryOut_124 (by decide) ?_
        have e8 : car R F len a (a + 3 + t) = (1, upd R (10 + 10 * j) (nmb F len (a + 3) t)) := by rw [car, if_neg c1, if_neg c2, if_pos hcar, if_pos c4, Nat.add_sub_cancel_left, hwj, hix]; rfl
        exact W.zret (ty := .boolean) hx hb hr rfl (fun t ht hW => ⟨⟨1, H6, rfl, ⟨by rw [e8], by rw [e8]; exact ⟨w, _, hw, hD⟩⟩, ht⟩, hS.F ht⟩) hS.2.2 dX5_carryOut_125
      refine lv_iconst (v := 0) hx hb dX5_carryOut_92 (by decide) ?_
      have e8 : car R F len a e9 = (0, R) := by rw [car, if_neg c1, if_neg c2, nS_bad (by by_cases q : nmb F len (a + 1) 1 < 0; exact Or.inl q; by_cases q2 : 3 ≤ nmb F len (a + 1) 1; exact Or.inr q2; rw [if_neg q, if_neg q2] at c3; exact absurd c3 (by decide))]; rfl
      exact W.zret (ty := .boolean) hx hb hr rfl (fun t ht hW => ⟨⟨0, s.heap, rfl, ⟨by rw [e8], by rw [e8]; exact ⟨w, _, hw, hD⟩⟩, ht⟩, hS.F ht⟩) hS.2.2 dX5_carryOut_93
    refine lv_aload_n hx hb dX5_carryOut_57 rfl (lv_at hl 2 rfl) ?_
    refine lv_iload hx hb dX5_carryOut_58 (lv_at hl 0 rfl) ?_
    refine lv_aload_n hx hb dX5_carryOut_60 rfl (lv_at hl 2 rfl) ?_
    refine dp_get hx hb hts (dp_hin 163 rfl) hown hK hD.1 rfl 5 (by decide) (hts (.fieldLink RX5 32 "DroopBoard" "text" "LDroopBoard$OrderText;") (List.mem_of_getElem? (i := 1) rfl)) rfl dX5_carryOut_61 ?_
    refine lv_iload_n hx hb dX5_carryOut_64 rfl (lv_at hl 3 rfl) ?_
    refine lv_iconst (v := 2) hx hb dX5_carryOut_65 (by decide) ?_
    refine lv_iadd hx hb dX5_carryOut_66 ?_
    rw [nI_2 a]
    refine dp_Vi hF hK hN (c_X4_codeAt l D G (tx α) F len (a + 2) _ hD.2.2.2.2.2 hl6 (by omega)) (cwV 1 hts gX5_carryOut_X4_codeAt rfl rfl rfl (by decide +kernel) ⟨Nat.le_of_ble_eq_true rfl, Nat.le_of_ble_eq_true rfl⟩) (dp_recv hK hD.2.2.2.2.2.1 rfl) hS nA_i [.int (nmb F len (a + 1) 1), .ref (α 0)] rfl rfl hl.1 (Nat.le_of_ble_eq_true rfl) dX5_carryOut_67 ⟨Nat.le_of_ble_eq_true rfl, Nat.le_of_ble_eq_true rfl⟩ (fun rH7 H7 locs hp hzH7 hkH7 hS => ?_)
    obtain ⟨rfl, rfl⟩ := hp
    refine lv_bipush (v := 43) hx hb dX5_carryOut_70 (by decide) ?_
    refine lv_icmp_ne (tgt := 79) hx hb dX5_carryOut_72 (by decide) (fun c5 => ?_) (fun c5 => ?_)
    · refine lv_iconst (v := 0) hx hb dX5_carryOut_79 (by decide) ?_
      refine dp_Vi hF hK hN (c_X5_switchFeeder l D G α w R RT RS kp sv n F len (nmb F len (a + 1) 1) 0 _ hα hw hD hbz hm hn6 hl6 (Or.inl rfl)) (cwV 2 hts gX5_carryOut_X5_switchFeeder rfl rfl rfl (by decide +kernel) ⟨Nat.le_of_ble_eq_true rfl, Nat.le_of_ble_eq_true rfl⟩) (dp_recv hK hD.1 rfl) hS (fun q hq => hq) [] rfl rfl hl.1 (Nat.le_of_ble_eq_true rfl) dX5_carryOut_80 ⟨Nat.le_of_ble_eq_true rfl, Nat.le_of_ble_eq_true rfl⟩ (fun rH8 H8 locs hp hzH8 hkH8 hS => ?_)
      obtain ⟨rfl, w, RT, hw, hD⟩ := hp
      have e8 : car R F len a e9 = (swf R (nmb F len (a + 1) 1) 0) := by rw [car, if_neg c1, if_pos c2, if_neg c5]
      exact W.zret (ty := .boolean) hx hb hr (nz_n (swf_01 _ _ _)) (fun t ht hW => ⟨⟨(swf R (nmb F len (a + 1) 1) 0).1, H8, rfl, ⟨by rw [e8], by rw [e8]; exact ⟨w, _, hw, hD⟩⟩, ht⟩, hS.F ht⟩) hS.2.2 dX5_carryOut_83
    refine lv_iconst (v := 1) hx hb dX5_carryOut_75 (by decide) ?_
    refine lv_goto (tgt := 80) hx hb dX5_carryOut_76 (by decide) ?_
    refine dp_Vi hF hK hN (c_X5_switchFeeder l D G α w R RT RS kp sv n F len (nmb F len (a + 1) 1) 1 _ hα hw hD hbz hm hn6 hl6 (Or.inr rfl)) (cwV 2 hts gX5_carryOut_X5_switchFeeder rfl rfl rfl (by decide +kernel) ⟨Nat.le_of_ble_eq_true rfl, Nat.le_of_ble_eq_true rfl⟩) (dp_recv hK hD.1 rfl) hS (fun q hq => hq) [] rfl rfl hl.1 (Nat.le_of_ble_eq_true rfl) dX5_carryOut_80 ⟨Nat.le_of_ble_eq_true rfl, Nat.le_of_ble_eq_true rfl⟩ (fun rH9 H9 locs hp hzH9 hkH9 hS => ?_)
    obtain ⟨rfl, w, RT, hw, hD⟩ := hp
    have e8 : car R F len a e9 = (swf R (nmb F len (a + 1) 1) 1) := by rw [car, if_neg c1, if_pos c2, if_pos c5]
    exact W.zret (ty := .boolean) hx hb hr (nz_n (swf_01 _ _ _)) (fun t ht hW => ⟨⟨(swf R (nmb F len (a + 1) 1) 1).1, H9, rfl, ⟨by rw [e8], by rw [e8]; exact ⟨w, _, hw, hD⟩⟩, ht⟩, hS.F ht⟩) hS.2.2 dX5_carryOut_83
  obtain ⟨t, rfl⟩ : ∃ t, e9 = a + 1 + t := ⟨e9 - (a + 1), by omega⟩
  refine lv_aload_n hx hb dX5_carryOut_15 rfl (lv_at hl 1 rfl) ?_
  refine dp_get hx hb hts (dp_hin 163 rfl) hown hK hD.1 rfl 0 (by decide) (hts (.fieldLink RX5 10 "DroopBoard" "board" "LDroopBoard$Board;") (List.mem_of_getElem? (i := 2) rfl)) rfl dX5_carryOut_16 ?_
  refine lv_aload_n hx hb dX5_carryOut_19 rfl (lv_at hl 1 rfl) ?_
  refine dp_get hx hb hts (dp_hin 163 rfl) hown hK hD.1 rfl 5 (by decide) (hts (.fieldLink RX5 32 "DroopBoard" "text" "LDroopBoard$OrderText;") (List.mem_of_getElem? (i := 1) rfl)) rfl dX5_carryOut_20 ?_
  refine lv_iload_n hx hb dX5_carryOut_23 rfl (lv_at hl 2 rfl) ?_
  refine lv_iconst (v := 1) hx hb dX5_carryOut_24 (by decide) ?_
  refine lv_iadd hx hb dX5_carryOut_25 ?_
  rw [nI_1 a]
  refine lv_iload_n hx hb dX5_carryOut_26 rfl (lv_at hl 3 rfl) ?_
  refine dp_Vi hF hK hN (c_X4_number l D G (tx α) F len (a + 1) t _ hD.2.2.2.2.2 hl6 (by omega)) (cwV 2 hts gX5_carryOut_X4_number rfl rfl rfl (by decide +kernel) ⟨Nat.le_of_ble_eq_true rfl, Nat.le_of_ble_eq_true rfl⟩) (dp_recv hK hD.2.2.2.2.2.1 rfl) hS nA_i [.ref ((aB α 0) 0)] rfl rfl hl.1 (Nat.le_of_ble_eq_true rfl) dX5_carryOut_27 ⟨Nat.le_of_ble_eq_true rfl, Nat.le_of_ble_eq_true rfl⟩ (fun rH10 H10 locs hp hzH10 hkH10 hS => ?_)
  obtain ⟨rfl, rfl⟩ := hp
  obtain ⟨j, hj, hnj, hmp⟩ := ht c1
  rw [Nat.add_sub_cancel_left] at hnj
  rw [hnj]
  refine dp_Vi hF hK hN (c_X0_passTicks l D G (aB α 0) R j _ hD.2.1 (aB_inj hα (by omega)) (by omega) hmp) (cwV 1 hts gX5_carryOut_X0_passTicks rfl rfl rfl (by decide +kernel) ⟨Nat.le_of_ble_eq_true rfl, Nat.le_of_ble_eq_true rfl⟩) (dp_recv hK hD.2.1.1 rfl) hS (A5_b (by omega)) [] rfl rfl hl.1 (Nat.le_of_ble_eq_true rfl) dX5_carryOut_30 ⟨Nat.le_of_ble_eq_true rfl, Nat.le_of_ble_eq_true rfl⟩ (fun rH11 H11 locs hp hzH11 hkH11 hS => ?_)
  obtain ⟨hz9, hB9, rfl⟩ := hp
  have hD := hD.board hα hw hB9 (fun q hq => hq) hkH11
  refine lv_pop hx hb dX5_carryOut_33 rfl ?_
  refine lv_iconst (v := 1) hx hb dX5_carryOut_34 (by decide) ?_
  have e8 : car R F len a (a + 1 + t) = (1, pt R j) := by rw [car, if_pos c1, Nat.add_sub_cancel_left, hnj, ix_nI (by omega)]
  exact W.zret (ty := .boolean) hx hb hr rfl (fun t ht hW => ⟨⟨1, H11, rfl, ⟨by rw [e8], by rw [e8]; exact ⟨w, _, hw, hD⟩⟩, ht⟩, hS.F ht⟩) hS.2.2 dX5_carryOut_35

set_option maxHeartbeats 600000 in
set_option maxRecDepth 100000 in
theorem c_X5_obey (l : Launch) (hl9 : l.stackTraces = false) (D : va_G) (G : Nat → ClassId) (α : Nat → Nat) (w : Nat → Nat) (R RT RS : Nat → Int32) (kp : Int32) (sv : Nat → Nat → Int32) (n : Nat) (F : Nat → Int32) (len : Nat)  (H : Heap) (hα : inj 115 α) (hw : pm w) (hD : DP D G α w R RT RS kp sv n F len H) (hbz : bz R) (hm : mono R) (hn6 : n ≤ 6) (hl6 : len ≤ 60) (J : Nat → (Nat → Int32) → Prop) (hJ0 : cObey F len = 0 → J 0 R) (hJs : ∀ a R, a < len → J a R → ¬ (car R F len a (eop F a (len - a))).1 = 0 → J (eop F a (len - a) + 1) (car R F len a (eop F a (len - a))).2) (hJm : ∀ a R, J a R → bz R ∧ mono R ∧ (a < len → a + 1 ≤ (eop F a (len - a)) ∧ (cod F len a = 115 → a + 3 ≤ (eop F a (len - a))) ∧ (cod F len a = 116 → ∃ j, j ≤ 99 ∧ nmb F len (a + 1) ((eop F a (len - a)) - (a + 1)) = nI j ∧ ∀ k, k < j → mono (pt R k)))) : vx_Met l yX5_obey wsX5_obey ({ frames := 6, cells := 1, slots := 6, locals := 139 } : Room) (va_Pc [.ref (α 0)] (CE D G (A5 α) H)) (QI (A5 α) (fun r h => cObey F len = 0 ∧ nI (oby F len 60 0 0 R).1 = r ∧ DW D G α ((oby F len 60 0 0 R).2) RS kp (svs sv n R) (svn n) F 0 h)) (XX (fun E => (E = xA ∧ cObey F len = 1))) 1 6 (A5 α) := by
  refine vx_ofW (cc := cX5_obey) (maxL := 5) (ret := (some .int)) (by decide) rfl ?_
  intro p e s m args below meth c s₁ B0 hml ht9 hv
  obtain ⟨rfl, ⟨rfl, hK, hN⟩, hE, hZ⟩ := hv
  have hx := B0.exec
  have hb := B0.bytes
  have hr := B0.returns
  have hts := atoms_spec (ws := wsX5_obey) B0.pre
  have hown : s.vm.findClass RX5 = some m.cls := findClass_of_methodNamed B0.named
  have hlocks := B0.notSynchronized
  have hF : CallFix p m c cX5_obey 5 s ([.ref (α 0)] : List Value).toArray wsX5_obey RX5 := ⟨hx, hb, hml, hown, hts⟩
  have hS : va_S (A5 α) s.heap s.heap [] := va_S.rf
  have hl := lv_entry ([.ref (α 0)]) (n := 5) (Nat.le_of_ble_eq_true rfl)
  rw [lg_entry_eq]
  generalize (lg_sl ([.ref (α 0)]) ++ List.replicate (5 - (lg_sl ([.ref (α 0)])).length) Slot.unset).toArray = ls at hl ⊢
  have hl : lv_has ls 5 [(0, .ref (α 0))] := hl
  refine lv_aload_n hx hb dX5_obey_0 rfl (lv_at hl 0 rfl) ?_
  refine dp_get hx hb hts (dp_hin 216 rfl) hown hK hD.1 rfl 5 (by decide) (hts (.fieldLink RX5 32 "DroopBoard" "text" "LDroopBoard$OrderText;") (List.mem_of_getElem? (i := 3) rfl)) rfl dX5_obey_1 ?_
  refine dp_Vi hF hK hN (c_X4_isComplete l D G (tx α) F len _ hD.2.2.2.2.2 hl6) (cwV 0 hts gX5_obey_X4_isComplete rfl rfl rfl (by decide +kernel) ⟨Nat.le_of_ble_eq_true rfl, Nat.le_of_ble_eq_true rfl⟩) (dp_recv hK hD.2.2.2.2.2.1 rfl) hS nA_i [] rfl rfl hl.1 (Nat.le_of_ble_eq_true rfl) dX5_obey_4 ⟨Nat.le_of_ble_eq_true rfl, Nat.le_of_ble_eq_true rfl⟩ (fun rH1 H1 locs hp hzH1 hkH1 hS => ?_)
  obtain ⟨rfl, rfl⟩ := hp
  refine lv_if_ne (tgt := 20) hx hb dX5_obey_7 (by decide) (fun c1 => ?_) (fun c1 => ?_)
  · refine lv_aload_n hx hb dX5_obey_20 rfl (lv_at hl 0 rfl) ?_
    refine dp_get hx hb hts (dp_hin 216 rfl) hown hK hD.1 rfl 4 (by decide) (hts (.fieldLink RX5 25 "DroopBoard" "history" "LDroopBoard$History;") (List.mem_of_getElem? (i := 4) rfl)) rfl dX5_obey_21 ?_
    refine lv_aload_n hx hb dX5_obey_24 rfl (lv_at hl 0 rfl) ?_
    refine dp_get hx hb hts (dp_hin 216 rfl) hown hK hD.1 rfl 0 (by decide) (hts (.fieldLink RX5 10 "DroopBoard" "board" "LDroopBoard$Board;") (List.mem_of_getElem? (i := 5) rfl)) rfl dX5_obey_25 ?_
    refine dp_Vv hF hK hN (c_X3_save l D G (hh α) (sB α) w sv n (aB α 0) R _ hD.2.2.2.2.1 (hap_a hα) hw hD.2.1 (sB_b hα) hbz (hh_b hα) hn6) (cwV 1 hts gX5_obey_X3_save rfl rfl rfl (by decide +kernel) ⟨Nat.le_of_ble_eq_true rfl, Nat.le_of_ble_eq_true rfl⟩) (dp_recv hK hD.2.2.2.2.1.1 rfl) hS A5_h [] rfl rfl hl.1 (Nat.le_of_ble_eq_true rfl) dX5_obey_28 ⟨Nat.le_of_ble_eq_true rfl, Nat.le_of_ble_eq_true rfl⟩ (fun H2 locs hp hzH2 hkH2 hS => ?_)
    obtain ⟨hz9, w, hw, hI9⟩ := hp
    have hD := hD.hist hα hI9 (fun q hq => hq) hkH2
    refine lv_iconst (v := 0) hx hb dX5_obey_31 (by decide) ?_
    refine lv_istore_n (lv' := [(1, .int 0), (0, .ref (α 0))]) hx hb dX5_obey_32 rfl hl (by decide) rfl (fun ls hl => ?_)
    refine lv_iconst (v := 0) hx hb dX5_obey_33 (by decide) ?_
    refine lv_istore_n (lv' := [(2, .int 0), (1, .int 0), (0, .ref (α 0))]) hx hb dX5_obey_34 rfl hl (by decide) rfl (fun ls hl => ?_)
    refine lv_iconst (v := 0) hx hb dX5_obey_35 (by decide) ?_
    refine lv_istore_n (lv' := [(3, .int 0), (2, .int 0), (1, .int 0), (0, .ref (α 0))]) hx hb dX5_obey_36 rfl hl (by decide) rfl (fun ls hl => ?_)
    have loop37 : ∀ (m9 : Nat) (i : Nat) (a : Nat) (R9 : Nat → Int32) (Hh : Heap) (_ : i + m9 = 60) (_ : oby F len 60 0 0 R = oby F len m9 a i R9) (_ : J a R9) (_ : a ≤ 61) (_ : DW D G α R9 RS kp (svs sv n R) (svn n) F len Hh) (locs : List Loc) (_ : va_S (A5 α) s.heap Hh locs) (ls : Array Slot) (_ : lv_has ls 5 [(0, .ref (α 0)), (1, .int (nI i)), (2, .int (nI a)), (3, .int (nI i))]), W p l e (headSpec wsX5_obey ({ frames := 6, cells := 1, slots := 6, locals := 139 } : Room)).room s m ([.ref (α 0)] : List Value).toArray below meth c Hh locs 0 0 (vx_MQ below (QI (A5 α) (fun r h => cObey F len = 0 ∧ nI (oby F len 60 0 0 R).1 = r ∧ DW D G α ((oby F len 60 0 0 R).2) RS kp (svs sv n R) (svn n) F 0 h)) (XX (fun E => (E = xA ∧ cObey F len = 1))) ([.ref (α 0)] : List Value).toArray s 1 6 (A5 α)) (F0 m 37 ls []) := by
      intro m9
      induction m9 with
      | zero =>
        intro i a R9 Hh hin hf hJ ha9 hDW locs hS ls hl
        obtain ⟨w, RT, hw, hD⟩ := hDW
        obtain ⟨hbz9, hm9, hJ9⟩ := hJm a R9 hJ
        refine lv_iload_n hx hb dX5_obey_37 rfl (lv_at hl 3 rfl) ?_
        refine lv_bipush (v := 60) hx hb dX5_obey_38 (by decide) ?_
        refine lv_icmp_ge (tgt := 91) hx hb dX5_obey_40 (by decide) (fun c2 => ?_) (fun c2 => absurd (nI_le (a := 60) (b := i) (by omega) (by omega)) c2)
        refine lv_aload_n hx hb dX5_obey_91 rfl (lv_at hl 0 rfl) ?_
        refine dp_get hx hb hts (dp_hin 216 rfl) hown hK hD.1 rfl 5 (by decide) (hts (.fieldLink RX5 32 "DroopBoard" "text" "LDroopBoard$OrderText;") (List.mem_of_getElem? (i := 3) rfl)) rfl dX5_obey_92 ?_
        refine lv_iconst (v := 0) hx hb dX5_obey_95 (by decide) ?_
        refine dp_put (A := A5 α) (v := .int 0) hx hb hts (dp_hin 222 rfl) tyX4 tyX4_ok nmX4 hown hK hD.2.2.2.2.2.1 (⟨3, by omega, rfl⟩ : A5 α ((tx α) 0)) hS rfl 1 (by decide) (hts (.fieldLink RX5 159 "DroopBoard$OrderText" "length" "I") (List.mem_of_getElem? (i := 6) rfl)) rfl rfl rfl (Nat.le_of_ble_eq_true rfl) dX5_obey_96 (fun H3 locs hH3 hzH3 hkH3 hS => ?_)
        have hD := hD.text (A := fun q => q = (tx α) 0) hα hw (hD.2.2.2.2.2.putN (k := 0) (tx_inj hα) hH3 hkH3) (fun q hq => ⟨0, by omega, hq⟩) (fun q _ hne => hkH3 q hne)
        refine lv_iload_n hx hb dX5_obey_99 rfl (lv_at hl 1 rfl) ?_
        have e9 : oby F len 60 0 0 R = (i, R9) := hf
        refine W.widen (k := 1) (n := 6) (Nat.le_of_ble_eq_true rfl) (Nat.le_of_ble_eq_true rfl) ?_
        refine vx_ret ?_
        exact W.iret hx hb hr (fun t ht hW => ⟨⟨nI i, H3, rfl, ⟨cOb_ok c1, by rw [e9], by rw [e9]; exact ⟨w, _, hw, hD⟩⟩, ht⟩, hS.F ht⟩) hS.2.2 dX5_obey_100
      | succ m9 ih37 =>
        intro i a R9 Hh hin hf hJ ha9 hDW locs hS ls hl
        obtain ⟨w, RT, hw, hD⟩ := hDW
        obtain ⟨hbz9, hm9, hJ9⟩ := hJm a R9 hJ
        refine lv_iload_n hx hb dX5_obey_37 rfl (lv_at hl 3 rfl) ?_
        refine lv_bipush (v := 60) hx hb dX5_obey_38 (by decide) ?_
        refine lv_icmp_ge (tgt := 91) hx hb dX5_obey_40 (by decide) (fun c3 => absurd c3 (nI_ge (a := i) (b := 60) (by omega) (by omega))) (fun c3 => ?_)
        refine lv_iload_n hx hb dX5_obey_43 rfl (lv_at hl 2 rfl) ?_
        refine lv_aload_n hx hb dX5_obey_44 rfl (lv_at hl 0 rfl) ?_
        refine dp_get hx hb hts (dp_hin 216 rfl) hown hK hD.1 rfl 5 (by decide) (hts (.fieldLink RX5 32 "DroopBoard" "text" "LDroopBoard$OrderText;") (List.mem_of_getElem? (i := 3) rfl)) rfl dX5_obey_45 ?_
        refine dp_get hx hb hts (dp_hin 222 rfl) hown hK hD.2.2.2.2.2.1 rfl 1 (by decide) (hts (.fieldLink RX5 159 "DroopBoard$OrderText" "length" "I") (List.mem_of_getElem? (i := 6) rfl)) rfl dX5_obey_48 ?_
        refine lv_icmp_ge (tgt := 91) hx hb dX5_obey_51 (by decide) (fun c4 => ?_) (fun c4 => ?_)
        · refine lv_aload_n hx hb dX5_obey_91 rfl (lv_at hl 0 rfl) ?_
          refine dp_get hx hb hts (dp_hin 216 rfl) hown hK hD.1 rfl 5 (by decide) (hts (.fieldLink RX5 32 "DroopBoard" "text" "LDroopBoard$OrderText;") (List.mem_of_getElem? (i := 3) rfl)) rfl dX5_obey_92 ?_
          refine lv_iconst (v := 0) hx hb dX5_obey_95 (by decide) ?_
          refine dp_put (A := A5 α) (v := .int 0) hx hb hts (dp_hin 222 rfl) tyX4 tyX4_ok nmX4 hown hK hD.2.2.2.2.2.1 (⟨3, by omega, rfl⟩ : A5 α ((tx α) 0)) hS rfl 1 (by decide) (hts (.fieldLink RX5 159 "DroopBoard$OrderText" "length" "I") (List.mem_of_getElem? (i := 6) rfl)) rfl rfl rfl (Nat.le_of_ble_eq_true rfl) dX5_obey_96 (fun H4 locs hH4 hzH4 hkH4 hS => ?_)
          have hD := hD.text (A := fun q => q = (tx α) 0) hα hw (hD.2.2.2.2.2.putN (k := 0) (tx_inj hα) hH4 hkH4) (fun q hq => ⟨0, by omega, hq⟩) (fun q _ hne => hkH4 q hne)
          refine lv_iload_n hx hb dX5_obey_99 rfl (lv_at hl 1 rfl) ?_
          have e9 : oby F len 60 0 0 R = (i, R9) := by rw [hf, oby, if_pos (by rcases Nat.lt_or_ge a len with q | q; exact absurd c4 (nI_ge q (by omega)); exact q)]
          refine W.widen (k := 1) (n := 6) (Nat.le_of_ble_eq_true rfl) (Nat.le_of_ble_eq_true rfl) ?_
          refine vx_ret ?_
          exact W.iret hx hb hr (fun t ht hW => ⟨⟨nI i, H4, rfl, ⟨cOb_ok c1, by rw [e9], by rw [e9]; exact ⟨w, _, hw, hD⟩⟩, ht⟩, hS.F ht⟩) hS.2.2 dX5_obey_100
        have hla : a < len := by rcases Nat.lt_or_ge a len with q | q; exact q; exact absurd (nI_le q (by omega)) c4
        obtain ⟨hJa, hJb, hJc⟩ := hJ9 hla
        have hel := eop_le F (len - a) a
        refine lv_aload_n hx hb dX5_obey_54 rfl (lv_at hl 0 rfl) ?_
        refine dp_get hx hb hts (dp_hin 216 rfl) hown hK hD.1 rfl 5 (by decide) (hts (.fieldLink RX5 32 "DroopBoard" "text" "LDroopBoard$OrderText;") (List.mem_of_getElem? (i := 3) rfl)) rfl dX5_obey_55 ?_
        refine lv_iload_n hx hb dX5_obey_58 rfl (lv_at hl 2 rfl) ?_
        refine dp_Vi hF hK hN (c_X4_endOfPart l D G (tx α) F len a _ hD.2.2.2.2.2 hl6 (by omega)) (cwV 1 hts gX5_obey_X4_endOfPart rfl rfl rfl (by decide +kernel) ⟨Nat.le_of_ble_eq_true rfl, Nat.le_of_ble_eq_true rfl⟩) (dp_recv hK hD.2.2.2.2.2.1 rfl) hS nA_i [] rfl rfl hl.1 (Nat.le_of_ble_eq_true rfl) dX5_obey_59 ⟨Nat.le_of_ble_eq_true rfl, Nat.le_of_ble_eq_true rfl⟩ (fun rH5 H5 locs hp hzH5 hkH5 hS => ?_)
        obtain ⟨rfl, rfl⟩ := hp
        refine lv_istore (lv' := [(4, .int (nI (eop F a (len - a)))), (0, .ref (α 0)), (1, .int (nI i)), (2, .int (nI a)), (3, .int (nI i))]) hx hb dX5_obey_62 hl (by decide) rfl (fun ls hl => ?_)
        refine lv_aload_n hx hb dX5_obey_64 rfl (lv_at hl 1 rfl) ?_
        refine lv_iload_n hx hb dX5_obey_65 rfl (lv_at hl 3 rfl) ?_
        refine lv_iload hx hb dX5_obey_66 (lv_at hl 0 rfl) ?_
        refine dp_Vi hF hK hN (c_X5_carryOut l D G α w R9 RT RS kp ((svs sv n R)) (svn n) F len a (eop F a (len - a)) _ hα hw hD hbz9 hm9 (svn_le hn6) hl6 hla hJa (by omega) hJb hJc) (cwV 2 hts gX5_obey_X5_carryOut rfl rfl rfl (by decide +kernel) ⟨Nat.le_of_ble_eq_true rfl, Nat.le_of_ble_eq_true rfl⟩) (dp_recv hK hD.1 rfl) hS (fun q hq => hq) [] rfl rfl hl.1 (Nat.le_of_ble_eq_true rfl) dX5_obey_68 ⟨Nat.le_of_ble_eq_true rfl, Nat.le_of_ble_eq_true rfl⟩ (fun rH6 H6 locs hp hzH6 hkH6 hS => ?_)
        obtain ⟨rfl, w, RT, hw, hD⟩ := hp
        refine lv_if_ne (tgt := 77) hx hb dX5_obey_71 (by decide) (fun c5 => ?_) (fun c5 => ?_)
        · refine lv_iinc (v := nI (i + 1)) (lv' := [(1, .int (nI (i + 1))), (4, .int (nI (eop F a (len - a)))), (0, .ref (α 0)), (2, .int (nI a)), (3, .int (nI i))]) hx hb dX5_obey_77 hl (k := 2) rfl (nI_1 i) (by decide) rfl (fun ls hl => ?_)
          refine lv_iload hx hb dX5_obey_80 (lv_at hl 1 rfl) ?_
          refine lv_iconst (v := 1) hx hb dX5_obey_82 (by decide) ?_
          refine lv_iadd hx hb dX5_obey_83 ?_
          rw [nI_1 (eop F a (len - a))]
          refine lv_istore_n (lv' := [(2, .int (nI (eop F a (len - a) + 1))), (1, .int (nI (i + 1))), (4, .int (nI (eop F a (len - a)))), (0, .ref (α 0)), (3, .int (nI i))]) hx hb dX5_obey_84 rfl hl (by decide) rfl (fun ls hl => ?_)
          refine lv_iinc (v := nI (i + 1)) (lv' := [(3, .int (nI (i + 1))), (2, .int (nI (eop F a (len - a) + 1))), (1, .int (nI (i + 1))), (4, .int (nI (eop F a (len - a)))), (0, .ref (α 0))]) hx hb dX5_obey_85 hl (k := 4) rfl (nI_1 i) (by decide) rfl (fun ls hl => ?_)
          refine lv_goto (tgt := 37) hx hb dX5_obey_88 (by decide) ?_
          exact ih37 (i + 1) (eop F a (len - a) + 1) ((car R9 F len a (eop F a (len - a))).2) H6 (by omega) (by rw [hf, oby, if_neg (show ¬ len ≤ a by omega), if_neg c5]) (hJs a R9 hla hJ c5) (by have := eop_le F (len - a) a; omega) ⟨w, _, hw, hD⟩ _ hS _ (lv_sub hl [4, 2, 1, 0] rfl)
        refine lv_goto (tgt := 91) hx hb dX5_obey_74 (by decide) ?_
        refine lv_aload_n hx hb dX5_obey_91 rfl (lv_at hl 1 rfl) ?_
        refine dp_get hx hb hts (dp_hin 216 rfl) hown hK hD.1 rfl 5 (by decide) (hts (.fieldLink RX5 32 "DroopBoard" "text" "LDroopBoard$OrderText;") (List.mem_of_getElem? (i := 3) rfl)) rfl dX5_obey_92 ?_
        refine lv_iconst (v := 0) hx hb dX5_obey_95 (by decide) ?_
        refine dp_put (A := A5 α) (v := .int 0) hx hb hts (dp_hin 222 rfl) tyX4 tyX4_ok nmX4 hown hK hD.2.2.2.2.2.1 (⟨3, by omega, rfl⟩ : A5 α ((tx α) 0)) hS rfl 1 (by decide) (hts (.fieldLink RX5 159 "DroopBoard$OrderText" "length" "I") (List.mem_of_getElem? (i := 6) rfl)) rfl rfl rfl (Nat.le_of_ble_eq_true rfl) dX5_obey_96 (fun H7 locs hH7 hzH7 hkH7 hS => ?_)
        have hD := hD.text (A := fun q => q = (tx α) 0) hα hw (hD.2.2.2.2.2.putN (k := 0) (tx_inj hα) hH7 hkH7) (fun q hq => ⟨0, by omega, hq⟩) (fun q _ hne => hkH7 q hne)
        refine lv_iload_n hx hb dX5_obey_99 rfl (lv_at hl 2 rfl) ?_
        have e9 : oby F len 60 0 0 R = (i, (car R9 F len a (eop F a (len - a))).2) := by rw [hf, oby, if_neg (show ¬ len ≤ a by omega), if_pos c5]
        refine W.widen (k := 1) (n := 6) (Nat.le_of_ble_eq_true rfl) (Nat.le_of_ble_eq_true rfl) ?_
        refine vx_ret ?_
        exact W.iret hx hb hr (fun t ht hW => ⟨⟨nI i, H7, rfl, ⟨cOb_ok c1, by rw [e9], by rw [e9]; exact ⟨w, _, hw, hD⟩⟩, ht⟩, hS.F ht⟩) hS.2.2 dX5_obey_100
    exact loop37 60 0 0 R H2 rfl rfl (hJ0 (cOb_ok c1)) (by omega) ⟨w, _, hw, hD⟩ _ hS _ (lv_sub hl [3, 2, 1, 0] rfl)
  obtain ⟨sa, hsa⟩ := hE.2 (170, "the buffer is not complete orders as a text") (List.mem_of_getElem? (i := 6) rfl)
  exact vx_throwS hx hb hl9 (A := A5 α) (cls := "java/lang/IllegalArgumentException") (names := ["java/lang/RuntimeException", "java/lang/Exception"]) hown fit_A fit_N (hts (.classLink RX5 168 "java/lang/IllegalArgumentException") (List.mem_of_getElem? (i := 1) rfl)) (hts (.initialized "java/lang/IllegalArgumentException") (List.mem_of_getElem? (i := 2) rfl)) hsa (hat_A hE (fun w h => hts w (List.mem_cons_of_mem _ (List.mem_append_right _ h)))) good_A hZ.1 hZ.2.1 hS (hl.1.trans hml.symm) dX5_obey_10 dX5_obey_13 dX5_obey_14 dX5_obey_16 dX5_obey_19 (fun x hx => (ht9 x hx).elim) (Nat.le_of_ble_eq_true rfl) (Nat.le_of_ble_eq_true rfl) (Nat.le_of_ble_eq_true rfl) (Nat.le_of_ble_eq_true rfl) hlocks (fun t _ hz hk => ⟨(), trivial, ⟨rfl, cOb_no c1⟩, ⟨hz, fun q hq _ => hk q hq⟩⟩) hS.2.2 (Nat.le_of_ble_eq_true rfl) (Nat.le_of_ble_eq_true rfl)
