set_option maxHeartbeats 600000 in
set_option maxRecDepth 100000 in
theorem c_X4_between (l : Launch) (D : va_G) (G : Nat → ClassId) (q a b t9 : Int32) (H : Heap)  : Met l yX4_between wsX4_between ({ frames := 0, cells := 0, slots := 0, locals := 0 } : Room) (va_Pc [.int q, .int a, .int b, .int t9] (CX D G H)) (QI nA (fun r h => H = h ∧ btw q a b t9 = r)) 0 0 (nA) := by
  refine Met.ofW (cc := cX4_between) (maxL := 4) (ret := (some .int)) (by decide) rfl ?_
  intro p e s m args below meth c s₁ B0 hml hv
  obtain ⟨rfl, rfl, hK, hN⟩ := hv
  have hx := B0.exec
  have hb := B0.bytes
  have hr := B0.returns
  have hts := atoms_spec (ws := wsX4_between) B0.pre
  have hown : s.vm.findClass RX4 = some m.cls := findClass_of_methodNamed B0.named
  have hlocks := B0.notSynchronized
  have hF : CallFix p m c cX4_between 4 s ([.int q, .int a, .int b, .int t9] : List Value).toArray wsX4_between RX4 := ⟨hx, hb, hml, hown, hts⟩
  have hS : va_S (nA) s.heap s.heap [] := va_S.rf
  have hl := lv_entry ([.int q, .int a, .int b, .int t9]) (n := 4) (Nat.le_of_ble_eq_true rfl)
  rw [lg_entry_eq]
  generalize (lg_sl ([.int q, .int a, .int b, .int t9]) ++ List.replicate (4 - (lg_sl ([.int q, .int a, .int b, .int t9])).length) Slot.unset).toArray = ls at hl ⊢
  have hl : lv_has ls 4 [(0, .int q), (1, .int a), (2, .int b), (3, .int t9)] := hl
  refine lv_iload_n hx hb dX4_between_0 rfl (lv_at hl 0 rfl) ?_
  refine lv_iload_n hx hb dX4_between_1 rfl (lv_at hl 1 rfl) ?_
  refine lv_icmp_lt (tgt := 14) hx hb dX4_between_2 (by decide) (fun c1 => ?_) (fun c1 => ?_)
  · refine lv_iconst (v := 0) hx hb dX4_between_14 (by decide) ?_
    exact W.iret hx hb hr (fun t ht hW => ⟨⟨0, s.heap, rfl, ⟨rfl, by simp [btw, c1]⟩, ht⟩, hS.F ht⟩) hS.2.2 dX4_between_15
  refine lv_iload_n hx hb dX4_between_5 rfl (lv_at hl 0 rfl) ?_
  refine lv_iload_n hx hb dX4_between_6 rfl (lv_at hl 2 rfl) ?_
  refine lv_icmp_gt (tgt := 14) hx hb dX4_between_7 (by decide) (fun c2 => ?_) (fun c2 => ?_)
  · refine lv_iconst (v := 0) hx hb dX4_between_14 (by decide) ?_
    exact W.iret hx hb hr (fun t ht hW => ⟨⟨0, s.heap, rfl, ⟨rfl, by simp [btw, c1, c2]⟩, ht⟩, hS.F ht⟩) hS.2.2 dX4_between_15
  refine lv_iload_n hx hb dX4_between_10 rfl (lv_at hl 3 rfl) ?_
  refine lv_goto (tgt := 15) hx hb dX4_between_11 (by decide) ?_
  exact W.iret hx hb hr (fun t ht hW => ⟨⟨t9, s.heap, rfl, ⟨rfl, by simp [btw, c1, c2]⟩, ht⟩, hS.F ht⟩) hS.2.2 dX4_between_15

set_option maxHeartbeats 600000 in
set_option maxRecDepth 100000 in
theorem c_X4_afterLetter (l : Launch) (D : va_G) (G : Nat → ClassId) (q : Int32) (H : Heap)  : Met l yX4_afterLetter wsX4_afterLetter ({ frames := 0, cells := 0, slots := 0, locals := 0 } : Room) (va_Pc [.int q] (CX D G H)) (QI nA (fun r h => H = h ∧ aftl q = r)) 0 0 (nA) := by
  refine Met.ofW (cc := cX4_afterLetter) (maxL := 1) (ret := (some .int)) (by decide) rfl ?_
  intro p e s m args below meth c s₁ B0 hml hv
  obtain ⟨rfl, rfl, hK, hN⟩ := hv
  have hx := B0.exec
  have hb := B0.bytes
  have hr := B0.returns
  have hts := atoms_spec (ws := wsX4_afterLetter) B0.pre
  have hown : s.vm.findClass RX4 = some m.cls := findClass_of_methodNamed B0.named
  have hlocks := B0.notSynchronized
  have hF : CallFix p m c cX4_afterLetter 1 s ([.int q] : List Value).toArray wsX4_afterLetter RX4 := ⟨hx, hb, hml, hown, hts⟩
  have hS : va_S (nA) s.heap s.heap [] := va_S.rf
  have hl := lv_entry ([.int q]) (n := 1) (Nat.le_of_ble_eq_true rfl)
  rw [lg_entry_eq]
  generalize (lg_sl ([.int q]) ++ List.replicate (1 - (lg_sl ([.int q])).length) Slot.unset).toArray = ls at hl ⊢
  have hl : lv_has ls 1 [(0, .int q)] := hl
  refine lv_iload_n hx hb dX4_afterLetter_0 rfl (lv_at hl 0 rfl) ?_
  by_cases e1 : q = 99
  · refine lv_tableIn (off := 89) (tgt := 90) hx hb dX4_afterLetter_1 (by rw [e1]; decide) (by rw [e1]; decide) (by rw [e1]; rfl) (by decide) ?_
    refine lv_iconst (v := 2) hx hb dX4_afterLetter_90 (by decide) ?_
    exact W.iret hx hb hr (fun t ht hW => ⟨⟨2, s.heap, rfl, ⟨rfl, by simp [aftl, e1]⟩, ht⟩, hS.F ht⟩) hS.2.2 dX4_afterLetter_91
  by_cases e2 : q = 100
  · refine lv_tableIn (off := 97) (tgt := 98) hx hb dX4_afterLetter_1 (by rw [e2]; decide) (by rw [e2]; decide) (by rw [e2]; rfl) (by decide) ?_
    refine lv_iconst (v := 0) hx hb dX4_afterLetter_98 (by decide) ?_
    exact W.iret hx hb hr (fun t ht hW => ⟨⟨0, s.heap, rfl, ⟨rfl, by simp [aftl, e2]⟩, ht⟩, hS.F ht⟩) hS.2.2 dX4_afterLetter_99
  by_cases e3 : q = 101
  · refine lv_tableIn (off := 97) (tgt := 98) hx hb dX4_afterLetter_1 (by rw [e3]; decide) (by rw [e3]; decide) (by rw [e3]; rfl) (by decide) ?_
    refine lv_iconst (v := 0) hx hb dX4_afterLetter_98 (by decide) ?_
    exact W.iret hx hb hr (fun t ht hW => ⟨⟨0, s.heap, rfl, ⟨rfl, by simp [aftl, e3]⟩, ht⟩, hS.F ht⟩) hS.2.2 dX4_afterLetter_99
  by_cases e4 : q = 102
  · refine lv_tableIn (off := 91) (tgt := 92) hx hb dX4_afterLetter_1 (by rw [e4]; decide) (by rw [e4]; decide) (by rw [e4]; rfl) (by decide) ?_
    refine lv_bipush (v := 12) hx hb dX4_afterLetter_92 (by decide) ?_
    exact W.iret hx hb hr (fun t ht hW => ⟨⟨12, s.heap, rfl, ⟨rfl, by simp [aftl, e4]⟩, ht⟩, hS.F ht⟩) hS.2.2 dX4_afterLetter_94
  by_cases e5 : q = 103
  · refine lv_tableIn (off := 97) (tgt := 98) hx hb dX4_afterLetter_1 (by rw [e5]; decide) (by rw [e5]; decide) (by rw [e5]; rfl) (by decide) ?_
    refine lv_iconst (v := 0) hx hb dX4_afterLetter_98 (by decide) ?_
    exact W.iret hx hb hr (fun t ht hW => ⟨⟨0, s.heap, rfl, ⟨rfl, by simp [aftl, e5]⟩, ht⟩, hS.F ht⟩) hS.2.2 dX4_afterLetter_99
  by_cases e6 : q = 104
  · refine lv_tableIn (off := 89) (tgt := 90) hx hb dX4_afterLetter_1 (by rw [e6]; decide) (by rw [e6]; decide) (by rw [e6]; rfl) (by decide) ?_
    refine lv_iconst (v := 2) hx hb dX4_afterLetter_90 (by decide) ?_
    exact W.iret hx hb hr (fun t ht hW => ⟨⟨2, s.heap, rfl, ⟨rfl, by simp [aftl, e6]⟩, ht⟩, hS.F ht⟩) hS.2.2 dX4_afterLetter_91
  by_cases e7 : q = 105
  · refine lv_tableIn (off := 97) (tgt := 98) hx hb dX4_afterLetter_1 (by rw [e7]; decide) (by rw [e7]; decide) (by rw [e7]; rfl) (by decide) ?_
    refine lv_iconst (v := 0) hx hb dX4_afterLetter_98 (by decide) ?_
    exact W.iret hx hb hr (fun t ht hW => ⟨⟨0, s.heap, rfl, ⟨rfl, by simp [aftl, e7]⟩, ht⟩, hS.F ht⟩) hS.2.2 dX4_afterLetter_99
  by_cases e8 : q = 106
  · refine lv_tableIn (off := 97) (tgt := 98) hx hb dX4_afterLetter_1 (by rw [e8]; decide) (by rw [e8]; decide) (by rw [e8]; rfl) (by decide) ?_
    refine lv_iconst (v := 0) hx hb dX4_afterLetter_98 (by decide) ?_
    exact W.iret hx hb hr (fun t ht hW => ⟨⟨0, s.heap, rfl, ⟨rfl, by simp [aftl, e8]⟩, ht⟩, hS.F ht⟩) hS.2.2 dX4_afterLetter_99
  by_cases e9 : q = 107
  · refine lv_tableIn (off := 97) (tgt := 98) hx hb dX4_afterLetter_1 (by rw [e9]; decide) (by rw [e9]; decide) (by rw [e9]; rfl) (by decide) ?_
    refine lv_iconst (v := 0) hx hb dX4_afterLetter_98 (by decide) ?_
    exact W.iret hx hb hr (fun t ht hW => ⟨⟨0, s.heap, rfl, ⟨rfl, by simp [aftl, e9]⟩, ht⟩, hS.F ht⟩) hS.2.2 dX4_afterLetter_99
  by_cases e10 : q = 108
  · refine lv_tableIn (off := 97) (tgt := 98) hx hb dX4_afterLetter_1 (by rw [e10]; decide) (by rw [e10]; decide) (by rw [e10]; rfl) (by decide) ?_
    refine lv_iconst (v := 0) hx hb dX4_afterLetter_98 (by decide) ?_
    exact W.iret hx hb hr (fun t ht hW => ⟨⟨0, s.heap, rfl, ⟨rfl, by simp [aftl, e10]⟩, ht⟩, hS.F ht⟩) hS.2.2 dX4_afterLetter_99
  by_cases e11 : q = 109
  · refine lv_tableIn (off := 97) (tgt := 98) hx hb dX4_afterLetter_1 (by rw [e11]; decide) (by rw [e11]; decide) (by rw [e11]; rfl) (by decide) ?_
    refine lv_iconst (v := 0) hx hb dX4_afterLetter_98 (by decide) ?_
    exact W.iret hx hb hr (fun t ht hW => ⟨⟨0, s.heap, rfl, ⟨rfl, by simp [aftl, e11]⟩, ht⟩, hS.F ht⟩) hS.2.2 dX4_afterLetter_99
  by_cases e12 : q = 110
  · refine lv_tableIn (off := 97) (tgt := 98) hx hb dX4_afterLetter_1 (by rw [e12]; decide) (by rw [e12]; decide) (by rw [e12]; rfl) (by decide) ?_
    refine lv_iconst (v := 0) hx hb dX4_afterLetter_98 (by decide) ?_
    exact W.iret hx hb hr (fun t ht hW => ⟨⟨0, s.heap, rfl, ⟨rfl, by simp [aftl, e12]⟩, ht⟩, hS.F ht⟩) hS.2.2 dX4_afterLetter_99
  by_cases e13 : q = 111
  · refine lv_tableIn (off := 89) (tgt := 90) hx hb dX4_afterLetter_1 (by rw [e13]; decide) (by rw [e13]; decide) (by rw [e13]; rfl) (by decide) ?_
    refine lv_iconst (v := 2) hx hb dX4_afterLetter_90 (by decide) ?_
    exact W.iret hx hb hr (fun t ht hW => ⟨⟨2, s.heap, rfl, ⟨rfl, by simp [aftl, e13]⟩, ht⟩, hS.F ht⟩) hS.2.2 dX4_afterLetter_91
  by_cases e14 : q = 112
  · refine lv_tableIn (off := 97) (tgt := 98) hx hb dX4_afterLetter_1 (by rw [e14]; decide) (by rw [e14]; decide) (by rw [e14]; rfl) (by decide) ?_
    refine lv_iconst (v := 0) hx hb dX4_afterLetter_98 (by decide) ?_
    exact W.iret hx hb hr (fun t ht hW => ⟨⟨0, s.heap, rfl, ⟨rfl, by simp [aftl, e14]⟩, ht⟩, hS.F ht⟩) hS.2.2 dX4_afterLetter_99
  by_cases e15 : q = 113
  · refine lv_tableIn (off := 97) (tgt := 98) hx hb dX4_afterLetter_1 (by rw [e15]; decide) (by rw [e15]; decide) (by rw [e15]; rfl) (by decide) ?_
    refine lv_iconst (v := 0) hx hb dX4_afterLetter_98 (by decide) ?_
    exact W.iret hx hb hr (fun t ht hW => ⟨⟨0, s.heap, rfl, ⟨rfl, by simp [aftl, e15]⟩, ht⟩, hS.F ht⟩) hS.2.2 dX4_afterLetter_99
  by_cases e16 : q = 114
  · refine lv_tableIn (off := 89) (tgt := 90) hx hb dX4_afterLetter_1 (by rw [e16]; decide) (by rw [e16]; decide) (by rw [e16]; rfl) (by decide) ?_
    refine lv_iconst (v := 2) hx hb dX4_afterLetter_90 (by decide) ?_
    exact W.iret hx hb hr (fun t ht hW => ⟨⟨2, s.heap, rfl, ⟨rfl, by simp [aftl, e16]⟩, ht⟩, hS.F ht⟩) hS.2.2 dX4_afterLetter_91
  by_cases e17 : q = 115
  · refine lv_tableIn (off := 87) (tgt := 88) hx hb dX4_afterLetter_1 (by rw [e17]; decide) (by rw [e17]; decide) (by rw [e17]; rfl) (by decide) ?_
    refine lv_iconst (v := 3) hx hb dX4_afterLetter_88 (by decide) ?_
    exact W.iret hx hb hr (fun t ht hW => ⟨⟨3, s.heap, rfl, ⟨rfl, by simp [aftl, e17]⟩, ht⟩, hS.F ht⟩) hS.2.2 dX4_afterLetter_89
  by_cases e18 : q = 116
  · refine lv_tableIn (off := 94) (tgt := 95) hx hb dX4_afterLetter_1 (by rw [e18]; decide) (by rw [e18]; decide) (by rw [e18]; rfl) (by decide) ?_
    refine lv_bipush (v := 14) hx hb dX4_afterLetter_95 (by decide) ?_
    exact W.iret hx hb hr (fun t ht hW => ⟨⟨14, s.heap, rfl, ⟨rfl, by simp [aftl, e18]⟩, ht⟩, hS.F ht⟩) hS.2.2 dX4_afterLetter_97
  have e1I := lv_neT (a := 99) e1 (by decide)
  have e2I := lv_neT (a := 100) e2 (by decide)
  have e3I := lv_neT (a := 101) e3 (by decide)
  have e4I := lv_neT (a := 102) e4 (by decide)
  have e5I := lv_neT (a := 103) e5 (by decide)
  have e6I := lv_neT (a := 104) e6 (by decide)
  have e7I := lv_neT (a := 105) e7 (by decide)
  have e8I := lv_neT (a := 106) e8 (by decide)
  have e9I := lv_neT (a := 107) e9 (by decide)
  have e10I := lv_neT (a := 108) e10 (by decide)
  have e11I := lv_neT (a := 109) e11 (by decide)
  have e12I := lv_neT (a := 110) e12 (by decide)
  have e13I := lv_neT (a := 111) e13 (by decide)
  have e14I := lv_neT (a := 112) e14 (by decide)
  have e15I := lv_neT (a := 113) e15 (by decide)
  have e16I := lv_neT (a := 114) e16 (by decide)
  have e17I := lv_neT (a := 115) e17 (by decide)
  have e18I := lv_neT (a := 116) e18 (by decide)
  refine lv_tableOut (tgt := 98) hx hb dX4_afterLetter_1 (by omega) (by decide) ?_
  refine lv_iconst (v := 0) hx hb dX4_afterLetter_98 (by decide) ?_
  exact W.iret hx hb hr (fun t ht hW => ⟨⟨0, s.heap, rfl, ⟨rfl, by simp [aftl, e1, e2, e3, e4, e5, e6, e7, e8, e9, e10, e11, e12, e13, e14, e15, e16, e17, e18]⟩, ht⟩, hS.F ht⟩) hS.2.2 dX4_afterLetter_99

set_option maxHeartbeats 600000 in
set_option maxRecDepth 100000 in
theorem c_X4_next (l : Launch) (D : va_G) (G : Nat → ClassId) (q ch : Int32) (H : Heap)  : Met l yX4_next wsX4_next ({ frames := 1, cells := 0, slots := 0, locals := 23 } : Room) (va_Pc [.int q, .int ch] (CX D G H)) (QI nA (fun r h => H = h ∧ nxt q ch = r)) 0 0 (nA) := by
  refine Met.ofW (cc := cX4_next) (maxL := 2) (ret := (some .int)) (by decide) rfl ?_
  intro p e s m args below meth c s₁ B0 hml hv
  obtain ⟨rfl, rfl, hK, hN⟩ := hv
  have hx := B0.exec
  have hb := B0.bytes
  have hr := B0.returns
  have hts := atoms_spec (ws := wsX4_next) B0.pre
  have hown : s.vm.findClass RX4 = some m.cls := findClass_of_methodNamed B0.named
  have hlocks := B0.notSynchronized
  have hF : CallFix p m c cX4_next 2 s ([.int q, .int ch] : List Value).toArray wsX4_next RX4 := ⟨hx, hb, hml, hown, hts⟩
  have hS : va_S (nA) s.heap s.heap [] := va_S.rf
  have hl := lv_entry ([.int q, .int ch]) (n := 2) (Nat.le_of_ble_eq_true rfl)
  rw [lg_entry_eq]
  generalize (lg_sl ([.int q, .int ch]) ++ List.replicate (2 - (lg_sl ([.int q, .int ch])).length) Slot.unset).toArray = ls at hl ⊢
  have hl : lv_has ls 2 [(0, .int q), (1, .int ch)] := hl
  refine lv_iload_n hx hb dX4_next_0 rfl (lv_at hl 0 rfl) ?_
  by_cases e1 : q = 1
  · refine lv_tableIn (off := 79) (tgt := 80) hx hb dX4_next_1 (by rw [e1]; decide) (by rw [e1]; decide) (by rw [e1]; rfl) (by decide) ?_
    refine lv_iload_n hx hb dX4_next_80 rfl (lv_at hl 1 rfl) ?_
    refine dp_Si hF hK hN (c_X4_afterLetter l D G ch _) (va_cwS 1 hts gX4_next_X4_afterLetter rfl rfl rfl (by decide +kernel) ⟨Nat.le_of_ble_eq_true rfl, Nat.le_of_ble_eq_true rfl⟩) hS nA_i [] rfl rfl hl.1 (Nat.le_of_ble_eq_true rfl) dX4_next_81 ⟨Nat.le_of_ble_eq_true rfl, Nat.le_of_ble_eq_true rfl⟩ (fun rH1 H1 locs hp hzH1 hkH1 hS => ?_)
    obtain ⟨rfl, rfl⟩ := hp
    exact W.iret hx hb hr (fun t ht hW => ⟨⟨aftl ch, s.heap, rfl, ⟨rfl, by simp [nxt, e1]⟩, ht⟩, hS.F ht⟩) hS.2.2 dX4_next_84
  by_cases e2 : q = 2
  · refine lv_tableIn (off := 84) (tgt := 85) hx hb dX4_next_1 (by rw [e2]; decide) (by rw [e2]; decide) (by rw [e2]; rfl) (by decide) ?_
    refine lv_iload_n hx hb dX4_next_85 rfl (lv_at hl 1 rfl) ?_
    refine lv_bipush (v := 48) hx hb dX4_next_86 (by decide) ?_
    refine lv_bipush (v := 50) hx hb dX4_next_88 (by decide) ?_
    refine lv_bipush (v := 16) hx hb dX4_next_90 (by decide) ?_
    refine dp_Si hF hK hN (c_X4_between l D G ch 48 50 16 _) (va_cwS 4 hts gX4_next_X4_between rfl rfl rfl (by decide +kernel) ⟨Nat.le_of_ble_eq_true rfl, Nat.le_of_ble_eq_true rfl⟩) hS nA_i [] rfl rfl hl.1 (Nat.le_of_ble_eq_true rfl) dX4_next_92 ⟨Nat.le_of_ble_eq_true rfl, Nat.le_of_ble_eq_true rfl⟩ (fun rH2 H2 locs hp hzH2 hkH2 hS => ?_)
    obtain ⟨rfl, rfl⟩ := hp
    exact W.iret hx hb hr (fun t ht hW => ⟨⟨btw ch 48 50 16, s.heap, rfl, ⟨rfl, by simp [nxt, e2]⟩, ht⟩, hS.F ht⟩) hS.2.2 dX4_next_95
  by_cases e3 : q = 3
  · refine lv_tableIn (off := 95) (tgt := 96) hx hb dX4_next_1 (by rw [e3]; decide) (by rw [e3]; decide) (by rw [e3]; rfl) (by decide) ?_
    refine lv_iload_n hx hb dX4_next_96 rfl (lv_at hl 1 rfl) ?_
    refine lv_bipush (v := 48) hx hb dX4_next_97 (by decide) ?_
    refine lv_bipush (v := 50) hx hb dX4_next_99 (by decide) ?_
    refine lv_iconst (v := 4) hx hb dX4_next_101 (by decide) ?_
    refine dp_Si hF hK hN (c_X4_between l D G ch 48 50 4 _) (va_cwS 4 hts gX4_next_X4_between rfl rfl rfl (by decide +kernel) ⟨Nat.le_of_ble_eq_true rfl, Nat.le_of_ble_eq_true rfl⟩) hS nA_i [] rfl rfl hl.1 (Nat.le_of_ble_eq_true rfl) dX4_next_102 ⟨Nat.le_of_ble_eq_true rfl, Nat.le_of_ble_eq_true rfl⟩ (fun rH3 H3 locs hp hzH3 hkH3 hS => ?_)
    obtain ⟨rfl, rfl⟩ := hp
    exact W.iret hx hb hr (fun t ht hW => ⟨⟨btw ch 48 50 4, s.heap, rfl, ⟨rfl, by simp [nxt, e3]⟩, ht⟩, hS.F ht⟩) hS.2.2 dX4_next_105
  by_cases e4 : q = 4
  · refine lv_tableIn (off := 105) (tgt := 106) hx hb dX4_next_1 (by rw [e4]; decide) (by rw [e4]; decide) (by rw [e4]; rfl) (by decide) ?_
    refine lv_iload_n hx hb dX4_next_106 rfl (lv_at hl 1 rfl) ?_
    refine lv_bipush (v := 61) hx hb dX4_next_107 (by decide) ?_
    refine lv_bipush (v := 61) hx hb dX4_next_109 (by decide) ?_
    refine lv_iconst (v := 5) hx hb dX4_next_111 (by decide) ?_
    refine dp_Si hF hK hN (c_X4_between l D G ch 61 61 5 _) (va_cwS 4 hts gX4_next_X4_between rfl rfl rfl (by decide +kernel) ⟨Nat.le_of_ble_eq_true rfl, Nat.le_of_ble_eq_true rfl⟩) hS nA_i [] rfl rfl hl.1 (Nat.le_of_ble_eq_true rfl) dX4_next_112 ⟨Nat.le_of_ble_eq_true rfl, Nat.le_of_ble_eq_true rfl⟩ (fun rH4 H4 locs hp hzH4 hkH4 hS => ?_)
    obtain ⟨rfl, rfl⟩ := hp
    exact W.iret hx hb hr (fun t ht hW => ⟨⟨btw ch 61 61 5, s.heap, rfl, ⟨rfl, by simp [nxt, e4]⟩, ht⟩, hS.F ht⟩) hS.2.2 dX4_next_115
  by_cases e5 : q = 5
  · refine lv_tableIn (off := 115) (tgt := 116) hx hb dX4_next_1 (by rw [e5]; decide) (by rw [e5]; decide) (by rw [e5]; rfl) (by decide) ?_
    refine lv_iload_n hx hb dX4_next_116 rfl (lv_at hl 1 rfl) ?_
    refine lv_bipush (v := 53) hx hb dX4_next_117 (by decide) ?_
    refine lv_icmp_ne (tgt := 127) hx hb dX4_next_119 (by decide) (fun c6 => ?_) (fun c6 => ?_)
    · refine lv_iload_n hx hb dX4_next_127 rfl (lv_at hl 1 rfl) ?_
      refine lv_bipush (v := 52) hx hb dX4_next_128 (by decide) ?_
      refine lv_bipush (v := 52) hx hb dX4_next_130 (by decide) ?_
      refine lv_bipush (v := 6) hx hb dX4_next_132 (by decide) ?_
      refine dp_Si hF hK hN (c_X4_between l D G ch 52 52 6 _) (va_cwS 4 hts gX4_next_X4_between rfl rfl rfl (by decide +kernel) ⟨Nat.le_of_ble_eq_true rfl, Nat.le_of_ble_eq_true rfl⟩) hS nA_i [] rfl rfl hl.1 (Nat.le_of_ble_eq_true rfl) dX4_next_134 ⟨Nat.le_of_ble_eq_true rfl, Nat.le_of_ble_eq_true rfl⟩ (fun rH5 H5 locs hp hzH5 hkH5 hS => ?_)
      obtain ⟨rfl, rfl⟩ := hp
      exact W.iret hx hb hr (fun t ht hW => ⟨⟨btw ch 52 52 6, s.heap, rfl, ⟨rfl, by simp [nxt, e5, c6]⟩, ht⟩, hS.F ht⟩) hS.2.2 dX4_next_137
    refine lv_bipush (v := 7) hx hb dX4_next_122 (by decide) ?_
    refine lv_goto (tgt := 137) hx hb dX4_next_124 (by decide) ?_
    exact W.iret hx hb hr (fun t ht hW => ⟨⟨7, s.heap, rfl, ⟨rfl, by simp [nxt, e5, c6]⟩, ht⟩, hS.F ht⟩) hS.2.2 dX4_next_137
  by_cases e7 : q = 6
  · refine lv_tableIn (off := 137) (tgt := 138) hx hb dX4_next_1 (by rw [e7]; decide) (by rw [e7]; decide) (by rw [e7]; rfl) (by decide) ?_
    refine lv_iload_n hx hb dX4_next_138 rfl (lv_at hl 1 rfl) ?_
    refine lv_bipush (v := 55) hx hb dX4_next_139 (by decide) ?_
    refine lv_bipush (v := 57) hx hb dX4_next_141 (by decide) ?_
    refine lv_bipush (v := 10) hx hb dX4_next_143 (by decide) ?_
    refine dp_Si hF hK hN (c_X4_between l D G ch 55 57 10 _) (va_cwS 4 hts gX4_next_X4_between rfl rfl rfl (by decide +kernel) ⟨Nat.le_of_ble_eq_true rfl, Nat.le_of_ble_eq_true rfl⟩) hS nA_i [] rfl rfl hl.1 (Nat.le_of_ble_eq_true rfl) dX4_next_145 ⟨Nat.le_of_ble_eq_true rfl, Nat.le_of_ble_eq_true rfl⟩ (fun rH6 H6 locs hp hzH6 hkH6 hS => ?_)
    obtain ⟨rfl, rfl⟩ := hp
    exact W.iret hx hb hr (fun t ht hW => ⟨⟨btw ch 55 57 10, s.heap, rfl, ⟨rfl, by simp [nxt, e7]⟩, ht⟩, hS.F ht⟩) hS.2.2 dX4_next_148
  by_cases e8 : q = 7
  · refine lv_tableIn (off := 148) (tgt := 149) hx hb dX4_next_1 (by rw [e8]; decide) (by rw [e8]; decide) (by rw [e8]; rfl) (by decide) ?_
    refine lv_iload_n hx hb dX4_next_149 rfl (lv_at hl 1 rfl) ?_
    refine lv_bipush (v := 51) hx hb dX4_next_150 (by decide) ?_
    refine lv_icmp_ne (tgt := 160) hx hb dX4_next_152 (by decide) (fun c9 => ?_) (fun c9 => ?_)
    · refine lv_iload_n hx hb dX4_next_160 rfl (lv_at hl 1 rfl) ?_
      refine lv_bipush (v := 48) hx hb dX4_next_161 (by decide) ?_
      refine lv_bipush (v := 50) hx hb dX4_next_163 (by decide) ?_
      refine lv_bipush (v := 10) hx hb dX4_next_165 (by decide) ?_
      refine dp_Si hF hK hN (c_X4_between l D G ch 48 50 10 _) (va_cwS 4 hts gX4_next_X4_between rfl rfl rfl (by decide +kernel) ⟨Nat.le_of_ble_eq_true rfl, Nat.le_of_ble_eq_true rfl⟩) hS nA_i [] rfl rfl hl.1 (Nat.le_of_ble_eq_true rfl) dX4_next_167 ⟨Nat.le_of_ble_eq_true rfl, Nat.le_of_ble_eq_true rfl⟩ (fun rH7 H7 locs hp hzH7 hkH7 hS => ?_)
      obtain ⟨rfl, rfl⟩ := hp
      exact W.iret hx hb hr (fun t ht hW => ⟨⟨btw ch 48 50 10, s.heap, rfl, ⟨rfl, by simp [nxt, e8, c9]⟩, ht⟩, hS.F ht⟩) hS.2.2 dX4_next_170
    refine lv_bipush (v := 8) hx hb dX4_next_155 (by decide) ?_
    refine lv_goto (tgt := 170) hx hb dX4_next_157 (by decide) ?_
    exact W.iret hx hb hr (fun t ht hW => ⟨⟨8, s.heap, rfl, ⟨rfl, by simp [nxt, e8, c9]⟩, ht⟩, hS.F ht⟩) hS.2.2 dX4_next_170
  by_cases e10 : q = 8
  · refine lv_tableIn (off := 170) (tgt := 171) hx hb dX4_next_1 (by rw [e10]; decide) (by rw [e10]; decide) (by rw [e10]; rfl) (by decide) ?_
    refine lv_iload_n hx hb dX4_next_171 rfl (lv_at hl 1 rfl) ?_
    refine lv_bipush (v := 48) hx hb dX4_next_172 (by decide) ?_
    refine lv_bipush (v := 48) hx hb dX4_next_174 (by decide) ?_
    refine lv_bipush (v := 9) hx hb dX4_next_176 (by decide) ?_
    refine dp_Si hF hK hN (c_X4_between l D G ch 48 48 9 _) (va_cwS 4 hts gX4_next_X4_between rfl rfl rfl (by decide +kernel) ⟨Nat.le_of_ble_eq_true rfl, Nat.le_of_ble_eq_true rfl⟩) hS nA_i [] rfl rfl hl.1 (Nat.le_of_ble_eq_true rfl) dX4_next_178 ⟨Nat.le_of_ble_eq_true rfl, Nat.le_of_ble_eq_true rfl⟩ (fun rH8 H8 locs hp hzH8 hkH8 hS => ?_)
    obtain ⟨rfl, rfl⟩ := hp
    exact W.iret hx hb hr (fun t ht hW => ⟨⟨btw ch 48 48 9, s.heap, rfl, ⟨rfl, by simp [nxt, e10]⟩, ht⟩, hS.F ht⟩) hS.2.2 dX4_next_181
  by_cases e11 : q = 9
  · refine lv_tableIn (off := 181) (tgt := 182) hx hb dX4_next_1 (by rw [e11]; decide) (by rw [e11]; decide) (by rw [e11]; rfl) (by decide) ?_
    refine lv_iload_n hx hb dX4_next_182 rfl (lv_at hl 1 rfl) ?_
    refine lv_bipush (v := 48) hx hb dX4_next_183 (by decide) ?_
    refine lv_bipush (v := 48) hx hb dX4_next_185 (by decide) ?_
    refine lv_bipush (v := 16) hx hb dX4_next_187 (by decide) ?_
    refine dp_Si hF hK hN (c_X4_between l D G ch 48 48 16 _) (va_cwS 4 hts gX4_next_X4_between rfl rfl rfl (by decide +kernel) ⟨Nat.le_of_ble_eq_true rfl, Nat.le_of_ble_eq_true rfl⟩) hS nA_i [] rfl rfl hl.1 (Nat.le_of_ble_eq_true rfl) dX4_next_189 ⟨Nat.le_of_ble_eq_true rfl, Nat.le_of_ble_eq_true rfl⟩ (fun rH9 H9 locs hp hzH9 hkH9 hS => ?_)
    obtain ⟨rfl, rfl⟩ := hp
    exact W.iret hx hb hr (fun t ht hW => ⟨⟨btw ch 48 48 16, s.heap, rfl, ⟨rfl, by simp [nxt, e11]⟩, ht⟩, hS.F ht⟩) hS.2.2 dX4_next_192
  by_cases e12 : q = 10
  · refine lv_tableIn (off := 192) (tgt := 193) hx hb dX4_next_1 (by rw [e12]; decide) (by rw [e12]; decide) (by rw [e12]; rfl) (by decide) ?_
    refine lv_iload_n hx hb dX4_next_193 rfl (lv_at hl 1 rfl) ?_
    refine lv_bipush (v := 48) hx hb dX4_next_194 (by decide) ?_
    refine lv_bipush (v := 57) hx hb dX4_next_196 (by decide) ?_
    refine lv_bipush (v := 11) hx hb dX4_next_198 (by decide) ?_
    refine dp_Si hF hK hN (c_X4_between l D G ch 48 57 11 _) (va_cwS 4 hts gX4_next_X4_between rfl rfl rfl (by decide +kernel) ⟨Nat.le_of_ble_eq_true rfl, Nat.le_of_ble_eq_true rfl⟩) hS nA_i [] rfl rfl hl.1 (Nat.le_of_ble_eq_true rfl) dX4_next_200 ⟨Nat.le_of_ble_eq_true rfl, Nat.le_of_ble_eq_true rfl⟩ (fun rH10 H10 locs hp hzH10 hkH10 hS => ?_)
    obtain ⟨rfl, rfl⟩ := hp
    exact W.iret hx hb hr (fun t ht hW => ⟨⟨btw ch 48 57 11, s.heap, rfl, ⟨rfl, by simp [nxt, e12]⟩, ht⟩, hS.F ht⟩) hS.2.2 dX4_next_203
  by_cases e13 : q = 11
  · refine lv_tableIn (off := 203) (tgt := 204) hx hb dX4_next_1 (by rw [e13]; decide) (by rw [e13]; decide) (by rw [e13]; rfl) (by decide) ?_
    refine lv_iload_n hx hb dX4_next_204 rfl (lv_at hl 1 rfl) ?_
    refine lv_bipush (v := 48) hx hb dX4_next_205 (by decide) ?_
    refine lv_bipush (v := 57) hx hb dX4_next_207 (by decide) ?_
    refine lv_bipush (v := 16) hx hb dX4_next_209 (by decide) ?_
    refine dp_Si hF hK hN (c_X4_between l D G ch 48 57 16 _) (va_cwS 4 hts gX4_next_X4_between rfl rfl rfl (by decide +kernel) ⟨Nat.le_of_ble_eq_true rfl, Nat.le_of_ble_eq_true rfl⟩) hS nA_i [] rfl rfl hl.1 (Nat.le_of_ble_eq_true rfl) dX4_next_211 ⟨Nat.le_of_ble_eq_true rfl, Nat.le_of_ble_eq_true rfl⟩ (fun rH11 H11 locs hp hzH11 hkH11 hS => ?_)
    obtain ⟨rfl, rfl⟩ := hp
    exact W.iret hx hb hr (fun t ht hW => ⟨⟨btw ch 48 57 16, s.heap, rfl, ⟨rfl, by simp [nxt, e13]⟩, ht⟩, hS.F ht⟩) hS.2.2 dX4_next_214
  by_cases e14 : q = 12
  · refine lv_tableIn (off := 214) (tgt := 215) hx hb dX4_next_1 (by rw [e14]; decide) (by rw [e14]; decide) (by rw [e14]; rfl) (by decide) ?_
    refine lv_iload_n hx hb dX4_next_215 rfl (lv_at hl 1 rfl) ?_
    refine lv_bipush (v := 48) hx hb dX4_next_216 (by decide) ?_
    refine lv_bipush (v := 51) hx hb dX4_next_218 (by decide) ?_
    refine lv_bipush (v := 13) hx hb dX4_next_220 (by decide) ?_
    refine dp_Si hF hK hN (c_X4_between l D G ch 48 51 13 _) (va_cwS 4 hts gX4_next_X4_between rfl rfl rfl (by decide +kernel) ⟨Nat.le_of_ble_eq_true rfl, Nat.le_of_ble_eq_true rfl⟩) hS nA_i [] rfl rfl hl.1 (Nat.le_of_ble_eq_true rfl) dX4_next_222 ⟨Nat.le_of_ble_eq_true rfl, Nat.le_of_ble_eq_true rfl⟩ (fun rH12 H12 locs hp hzH12 hkH12 hS => ?_)
    obtain ⟨rfl, rfl⟩ := hp
    exact W.iret hx hb hr (fun t ht hW => ⟨⟨btw ch 48 51 13, s.heap, rfl, ⟨rfl, by simp [nxt, e14]⟩, ht⟩, hS.F ht⟩) hS.2.2 dX4_next_225
  by_cases e15 : q = 13
  · refine lv_tableIn (off := 225) (tgt := 226) hx hb dX4_next_1 (by rw [e15]; decide) (by rw [e15]; decide) (by rw [e15]; rfl) (by decide) ?_
    refine lv_iload_n hx hb dX4_next_226 rfl (lv_at hl 1 rfl) ?_
    refine lv_bipush (v := 45) hx hb dX4_next_227 (by decide) ?_
    refine lv_icmp_ne (tgt := 237) hx hb dX4_next_229 (by decide) (fun c16 => ?_) (fun c16 => ?_)
    · refine lv_iload_n hx hb dX4_next_237 rfl (lv_at hl 1 rfl) ?_
      refine lv_bipush (v := 43) hx hb dX4_next_238 (by decide) ?_
      refine lv_bipush (v := 43) hx hb dX4_next_240 (by decide) ?_
      refine lv_bipush (v := 16) hx hb dX4_next_242 (by decide) ?_
      refine dp_Si hF hK hN (c_X4_between l D G ch 43 43 16 _) (va_cwS 4 hts gX4_next_X4_between rfl rfl rfl (by decide +kernel) ⟨Nat.le_of_ble_eq_true rfl, Nat.le_of_ble_eq_true rfl⟩) hS nA_i [] rfl rfl hl.1 (Nat.le_of_ble_eq_true rfl) dX4_next_244 ⟨Nat.le_of_ble_eq_true rfl, Nat.le_of_ble_eq_true rfl⟩ (fun rH13 H13 locs hp hzH13 hkH13 hS => ?_)
      obtain ⟨rfl, rfl⟩ := hp
      exact W.iret hx hb hr (fun t ht hW => ⟨⟨btw ch 43 43 16, s.heap, rfl, ⟨rfl, by simp [nxt, e15, c16]⟩, ht⟩, hS.F ht⟩) hS.2.2 dX4_next_247
    refine lv_bipush (v := 16) hx hb dX4_next_232 (by decide) ?_
    refine lv_goto (tgt := 247) hx hb dX4_next_234 (by decide) ?_
    exact W.iret hx hb hr (fun t ht hW => ⟨⟨16, s.heap, rfl, ⟨rfl, by simp [nxt, e15, c16]⟩, ht⟩, hS.F ht⟩) hS.2.2 dX4_next_247
  by_cases e17 : q = 14
  · refine lv_tableIn (off := 247) (tgt := 248) hx hb dX4_next_1 (by rw [e17]; decide) (by rw [e17]; decide) (by rw [e17]; rfl) (by decide) ?_
    refine lv_iload_n hx hb dX4_next_248 rfl (lv_at hl 1 rfl) ?_
    refine lv_bipush (v := 49) hx hb dX4_next_249 (by decide) ?_
    refine lv_bipush (v := 57) hx hb dX4_next_251 (by decide) ?_
    refine lv_bipush (v := 15) hx hb dX4_next_253 (by decide) ?_
    refine dp_Si hF hK hN (c_X4_between l D G ch 49 57 15 _) (va_cwS 4 hts gX4_next_X4_between rfl rfl rfl (by decide +kernel) ⟨Nat.le_of_ble_eq_true rfl, Nat.le_of_ble_eq_true rfl⟩) hS nA_i [] rfl rfl hl.1 (Nat.le_of_ble_eq_true rfl) dX4_next_255 ⟨Nat.le_of_ble_eq_true rfl, Nat.le_of_ble_eq_true rfl⟩ (fun rH14 H14 locs hp hzH14 hkH14 hS => ?_)
    obtain ⟨rfl, rfl⟩ := hp
    exact W.iret hx hb hr (fun t ht hW => ⟨⟨btw ch 49 57 15, s.heap, rfl, ⟨rfl, by simp [nxt, e17]⟩, ht⟩, hS.F ht⟩) hS.2.2 dX4_next_258
  by_cases e18 : q = 15
  · refine lv_tableIn (off := 258) (tgt := 259) hx hb dX4_next_1 (by rw [e18]; decide) (by rw [e18]; decide) (by rw [e18]; rfl) (by decide) ?_
    refine lv_iload_n hx hb dX4_next_259 rfl (lv_at hl 1 rfl) ?_
    refine lv_bipush (v := 59) hx hb dX4_next_260 (by decide) ?_
    refine lv_icmp_ne (tgt := 269) hx hb dX4_next_262 (by decide) (fun c19 => ?_) (fun c19 => ?_)
    · refine lv_iload_n hx hb dX4_next_269 rfl (lv_at hl 1 rfl) ?_
      refine lv_bipush (v := 48) hx hb dX4_next_270 (by decide) ?_
      refine lv_bipush (v := 57) hx hb dX4_next_272 (by decide) ?_
      refine lv_bipush (v := 16) hx hb dX4_next_274 (by decide) ?_
      refine dp_Si hF hK hN (c_X4_between l D G ch 48 57 16 _) (va_cwS 4 hts gX4_next_X4_between rfl rfl rfl (by decide +kernel) ⟨Nat.le_of_ble_eq_true rfl, Nat.le_of_ble_eq_true rfl⟩) hS nA_i [] rfl rfl hl.1 (Nat.le_of_ble_eq_true rfl) dX4_next_276 ⟨Nat.le_of_ble_eq_true rfl, Nat.le_of_ble_eq_true rfl⟩ (fun rH15 H15 locs hp hzH15 hkH15 hS => ?_)
      obtain ⟨rfl, rfl⟩ := hp
      exact W.iret hx hb hr (fun t ht hW => ⟨⟨btw ch 48 57 16, s.heap, rfl, ⟨rfl, by simp [nxt, e18, c19]⟩, ht⟩, hS.F ht⟩) hS.2.2 dX4_next_279
    refine lv_iconst (v := 1) hx hb dX4_next_265 (by decide) ?_
    refine lv_goto (tgt := 279) hx hb dX4_next_266 (by decide) ?_
    exact W.iret hx hb hr (fun t ht hW => ⟨⟨1, s.heap, rfl, ⟨rfl, by simp [nxt, e18, c19]⟩, ht⟩, hS.F ht⟩) hS.2.2 dX4_next_279
  by_cases e20 : q = 16
  · refine lv_tableIn (off := 279) (tgt := 280) hx hb dX4_next_1 (by rw [e20]; decide) (by rw [e20]; decide) (by rw [e20]; rfl) (by decide) ?_
    refine lv_iload_n hx hb dX4_next_280 rfl (lv_at hl 1 rfl) ?_
    refine lv_bipush (v := 59) hx hb dX4_next_281 (by decide) ?_
    refine lv_bipush (v := 59) hx hb dX4_next_283 (by decide) ?_
    refine lv_iconst (v := 1) hx hb dX4_next_285 (by decide) ?_
    refine dp_Si hF hK hN (c_X4_between l D G ch 59 59 1 _) (va_cwS 4 hts gX4_next_X4_between rfl rfl rfl (by decide +kernel) ⟨Nat.le_of_ble_eq_true rfl, Nat.le_of_ble_eq_true rfl⟩) hS nA_i [] rfl rfl hl.1 (Nat.le_of_ble_eq_true rfl) dX4_next_286 ⟨Nat.le_of_ble_eq_true rfl, Nat.le_of_ble_eq_true rfl⟩ (fun rH16 H16 locs hp hzH16 hkH16 hS => ?_)
    obtain ⟨rfl, rfl⟩ := hp
    exact W.iret hx hb hr (fun t ht hW => ⟨⟨btw ch 59 59 1, s.heap, rfl, ⟨rfl, by simp [nxt, e20]⟩, ht⟩, hS.F ht⟩) hS.2.2 dX4_next_289
  have e1I := lv_neT (a := 1) e1 (by decide)
  have e2I := lv_neT (a := 2) e2 (by decide)
  have e3I := lv_neT (a := 3) e3 (by decide)
  have e4I := lv_neT (a := 4) e4 (by decide)
  have e5I := lv_neT (a := 5) e5 (by decide)
  have e7I := lv_neT (a := 6) e7 (by decide)
  have e8I := lv_neT (a := 7) e8 (by decide)
  have e10I := lv_neT (a := 8) e10 (by decide)
  have e11I := lv_neT (a := 9) e11 (by decide)
  have e12I := lv_neT (a := 10) e12 (by decide)
  have e13I := lv_neT (a := 11) e13 (by decide)
  have e14I := lv_neT (a := 12) e14 (by decide)
  have e15I := lv_neT (a := 13) e15 (by decide)
  have e17I := lv_neT (a := 14) e17 (by decide)
  have e18I := lv_neT (a := 15) e18 (by decide)
  have e20I := lv_neT (a := 16) e20 (by decide)
  refine lv_tableOut (tgt := 290) hx hb dX4_next_1 (by omega) (by decide) ?_
  refine lv_iconst (v := 0) hx hb dX4_next_290 (by decide) ?_
  exact W.iret hx hb hr (fun t ht hW => ⟨⟨0, s.heap, rfl, ⟨rfl, by simp [nxt, e1, e2, e3, e4, e5, e7, e8, e10, e11, e12, e13, e14, e15, e17, e18, e20]⟩, ht⟩, hS.F ht⟩) hS.2.2 dX4_next_291

set_option maxHeartbeats 600000 in
set_option maxRecDepth 100000 in
theorem c_X4_isFull (l : Launch) (D : va_G) (G : Nat → ClassId) (x : Nat → Nat) (F : Nat → Int32) (n : Nat) (H : Heap) (hT : TX D G x F n H) (hn6 : n ≤ 60) : Met l yX4_isFull wsX4_isFull ({ frames := 0, cells := 0, slots := 0, locals := 0 } : Room) (va_Pc [.ref (x 0)] (CX D G H)) (QI nA (fun r h => H = h ∧ (if n < 60 then 0 else 1) = r)) 0 0 (nA) := by
  refine Met.ofW (cc := cX4_isFull) (maxL := 1) (ret := (some .boolean)) (by decide) rfl ?_
  intro p e s m args below meth c s₁ B0 hml hv
  obtain ⟨rfl, rfl, hK, hN⟩ := hv
  have hx := B0.exec
  have hb := B0.bytes
  have hr := B0.returns
  have hts := atoms_spec (ws := wsX4_isFull) B0.pre
  have hown : s.vm.findClass RX4 = some m.cls := findClass_of_methodNamed B0.named
  have hlocks := B0.notSynchronized
  have hF : CallFix p m c cX4_isFull 1 s ([.ref (x 0)] : List Value).toArray wsX4_isFull RX4 := ⟨hx, hb, hml, hown, hts⟩
  have hS : va_S (nA) s.heap s.heap [] := va_S.rf
  have hl := lv_entry ([.ref (x 0)]) (n := 1) (Nat.le_of_ble_eq_true rfl)
  rw [lg_entry_eq]
  generalize (lg_sl ([.ref (x 0)]) ++ List.replicate (1 - (lg_sl ([.ref (x 0)])).length) Slot.unset).toArray = ls at hl ⊢
  have hl : lv_has ls 1 [(0, .ref (x 0))] := hl
  refine lv_aload_n hx hb dX4_isFull_0 rfl (lv_at hl 0 rfl) ?_
  refine dp_get hx hb hts (dp_hin 3 rfl) hown hK hT.1 rfl 1 (by decide) (hts (.fieldLink RX4 15 "DroopBoard$OrderText" "length" "I") (List.mem_of_getElem? (i := 1) rfl)) rfl dX4_isFull_1 ?_
  refine lv_aload_n hx hb dX4_isFull_4 rfl (lv_at hl 0 rfl) ?_
  refine dp_get hx hb hts (dp_hin 3 rfl) hown hK hT.1 rfl 0 (by decide) (hts (.fieldLink RX4 9 "DroopBoard$OrderText" "codes" "[I") (List.mem_of_getElem? (i := 2) rfl)) rfl dX4_isFull_5 ?_
  refine dp_alen hx hb hK hT.2 0 rfl dX4_isFull_8 ?_
  refine lv_icmp_lt (tgt := 16) hx hb dX4_isFull_9 (by decide) (fun c1 => ?_) (fun c1 => ?_)
  · refine lv_iconst (v := 0) hx hb dX4_isFull_16 (by decide) ?_
    exact W.zret (ty := .boolean) hx hb hr rfl (fun t ht hW => ⟨⟨0, s.heap, rfl, ⟨rfl, by rw [if_pos ((nI_ltI (by omega) (by omega)).mp c1)]⟩, ht⟩, hS.F ht⟩) hS.2.2 dX4_isFull_17
  refine lv_iconst (v := 1) hx hb dX4_isFull_12 (by decide) ?_
  refine lv_goto (tgt := 17) hx hb dX4_isFull_13 (by decide) ?_
  exact W.zret (ty := .boolean) hx hb hr rfl (fun t ht hW => ⟨⟨1, s.heap, rfl, ⟨rfl, by rw [if_neg (fun q => c1 ((nI_ltI (by omega) (by omega)).mpr q))]⟩, ht⟩, hS.F ht⟩) hS.2.2 dX4_isFull_17

set_option maxHeartbeats 600000 in
set_option maxRecDepth 100000 in
theorem c_X4_codeAt (l : Launch) (D : va_G) (G : Nat → ClassId) (x : Nat → Nat) (F : Nat → Int32) (n : Nat) (k : Nat) (H : Heap) (hT : TX D G x F n H) (hn6 : n ≤ 60) (hk : k < 2 ^ 31) : Met l yX4_codeAt wsX4_codeAt ({ frames := 0, cells := 0, slots := 0, locals := 0 } : Room) (va_Pc [.ref (x 0), .int (nI k)] (CX D G H)) (QI nA (fun r h => H = h ∧ cod F n k = r)) 0 0 (nA) := by
  refine Met.ofW (cc := cX4_codeAt) (maxL := 2) (ret := (some .int)) (by decide) rfl ?_
  intro p e s m args below meth c s₁ B0 hml hv
  obtain ⟨rfl, rfl, hK, hN⟩ := hv
  have hx := B0.exec
  have hb := B0.bytes
  have hr := B0.returns
  have hts := atoms_spec (ws := wsX4_codeAt) B0.pre
  have hown : s.vm.findClass RX4 = some m.cls := findClass_of_methodNamed B0.named
  have hlocks := B0.notSynchronized
  have hF : CallFix p m c cX4_codeAt 2 s ([.ref (x 0), .int (nI k)] : List Value).toArray wsX4_codeAt RX4 := ⟨hx, hb, hml, hown, hts⟩
  have hS : va_S (nA) s.heap s.heap [] := va_S.rf
  have hl := lv_entry ([.ref (x 0), .int (nI k)]) (n := 2) (Nat.le_of_ble_eq_true rfl)
  rw [lg_entry_eq]
  generalize (lg_sl ([.ref (x 0), .int (nI k)]) ++ List.replicate (2 - (lg_sl ([.ref (x 0), .int (nI k)])).length) Slot.unset).toArray = ls at hl ⊢
  have hl : lv_has ls 2 [(0, .ref (x 0)), (1, .int (nI k))] := hl
  refine lv_iload_n hx hb dX4_codeAt_0 rfl (lv_at hl 1 rfl) ?_
  refine lv_if_lt (tgt := 21) hx hb dX4_codeAt_1 (by decide) (fun c1 => absurd c1 (nI_pos (by omega))) (fun c1 => ?_)
  refine lv_iload_n hx hb dX4_codeAt_4 rfl (lv_at hl 1 rfl) ?_
  refine lv_aload_n hx hb dX4_codeAt_5 rfl (lv_at hl 0 rfl) ?_
  refine dp_get hx hb hts (dp_hin 3 rfl) hown hK hT.1 rfl 1 (by decide) (hts (.fieldLink RX4 15 "DroopBoard$OrderText" "length" "I") (List.mem_of_getElem? (i := 1) rfl)) rfl dX4_codeAt_6 ?_
  refine lv_icmp_ge (tgt := 21) hx hb dX4_codeAt_9 (by decide) (fun c2 => ?_) (fun c2 => ?_)
  · refine lv_iconst (v := 0) hx hb dX4_codeAt_21 (by decide) ?_
    exact W.iret hx hb hr (fun t ht hW => ⟨⟨0, s.heap, rfl, ⟨rfl, cod_out (by rcases Nat.lt_or_ge k n with q | q; exact absurd c2 (nI_ge q (by omega)); exact q)⟩, ht⟩, hS.F ht⟩) hS.2.2 dX4_codeAt_22
  have hkn : k < n := by rcases Nat.lt_or_ge k n with q | q; exact q; exact absurd (nI_le q (by omega)) c2
  refine lv_aload_n hx hb dX4_codeAt_12 rfl (lv_at hl 0 rfl) ?_
  refine dp_get hx hb hts (dp_hin 3 rfl) hown hK hT.1 rfl 0 (by decide) (hts (.fieldLink RX4 9 "DroopBoard$OrderText" "codes" "[I") (List.mem_of_getElem? (i := 2) rfl)) rfl dX4_codeAt_13 ?_
  refine lv_iload_n hx hb dX4_codeAt_16 rfl (lv_at hl 1 rfl) ?_
  refine dp_iald hx hb hK hT.2 0 rfl k rfl (by omega) (by decide) dX4_codeAt_17 ?_
  refine lv_goto (tgt := 22) hx hb dX4_codeAt_18 (by decide) ?_
  exact W.iret hx hb hr (fun t ht hW => ⟨⟨F k, s.heap, rfl, ⟨rfl, cod_in hkn⟩, ht⟩, hS.F ht⟩) hS.2.2 dX4_codeAt_22

set_option maxHeartbeats 600000 in
set_option maxRecDepth 100000 in
theorem c_X4_firstWrong (l : Launch) (D : va_G) (G : Nat → ClassId) (x : Nat → Nat) (F : Nat → Int32) (n : Nat) (H : Heap) (hT : TX D G x F n H) (hn6 : n ≤ 60) : Met l yX4_firstWrong wsX4_firstWrong ({ frames := 2, cells := 0, slots := 0, locals := 44 } : Room) (va_Pc [.ref (x 0)] (CX D G H)) (QI nA (fun r h => H = h ∧ nI (fwr F 0 n) = r)) 0 0 (nA) := by
  refine Met.ofW (cc := cX4_firstWrong) (maxL := 3) (ret := (some .int)) (by decide) rfl ?_
  intro p e s m args below meth c s₁ B0 hml hv
  obtain ⟨rfl, rfl, hK, hN⟩ := hv
  have hx := B0.exec
  have hb := B0.bytes
  have hr := B0.returns
  have hts := atoms_spec (ws := wsX4_firstWrong) B0.pre
  have hown : s.vm.findClass RX4 = some m.cls := findClass_of_methodNamed B0.named
  have hlocks := B0.notSynchronized
  have hF : CallFix p m c cX4_firstWrong 3 s ([.ref (x 0)] : List Value).toArray wsX4_firstWrong RX4 := ⟨hx, hb, hml, hown, hts⟩
  have hS : va_S (nA) s.heap s.heap [] := va_S.rf
  have hl := lv_entry ([.ref (x 0)]) (n := 3) (Nat.le_of_ble_eq_true rfl)
  rw [lg_entry_eq]
  generalize (lg_sl ([.ref (x 0)]) ++ List.replicate (3 - (lg_sl ([.ref (x 0)])).length) Slot.unset).toArray = ls at hl ⊢
  have hl : lv_has ls 3 [(0, .ref (x 0))] := hl
  refine lv_iconst (v := 1) hx hb dX4_firstWrong_0 (by decide) ?_
  refine lv_istore_n (lv' := [(1, .int 1), (0, .ref (x 0))]) hx hb dX4_firstWrong_1 rfl hl (by decide) rfl (fun ls hl => ?_)
  refine lv_iconst (v := 0) hx hb dX4_firstWrong_2 (by decide) ?_
  refine lv_istore_n (lv' := [(2, .int 0), (1, .int 1), (0, .ref (x 0))]) hx hb dX4_firstWrong_3 rfl hl (by decide) rfl (fun ls hl => ?_)
  have loop4 : ∀ (m9 : Nat) (i : Nat) (_ : i + m9 = n) (_ : fwr F 0 n = fwr F i m9) (locs : List Loc) (_ : va_S (nA) s.heap s.heap locs) (ls : Array Slot) (_ : lv_has ls 3 [(0, .ref (x 0)), (1, .int (dfa F i)), (2, .int (nI i))]), W p l e (headSpec wsX4_firstWrong ({ frames := 2, cells := 0, slots := 0, locals := 44 } : Room)).room s m ([.ref (x 0)] : List Value).toArray below meth c s.heap locs 0 0 (MQ below (QI nA (fun r h => s.heap = h ∧ nI (fwr F 0 n) = r)) ([.ref (x 0)] : List Value).toArray s 0 0 (nA)) (F0 m 4 ls []) := by
    intro m9
    induction m9 with
    | zero =>
      intro i hin hf locs hS ls hl
      refine lv_iload_n hx hb dX4_firstWrong_4 rfl (lv_at hl 2 rfl) ?_
      refine lv_aload_n hx hb dX4_firstWrong_5 rfl (lv_at hl 0 rfl) ?_
      refine dp_get hx hb hts (dp_hin 13 rfl) hown hK hT.1 rfl 1 (by decide) (hts (.fieldLink RX4 15 "DroopBoard$OrderText" "length" "I") (List.mem_of_getElem? (i := 1) rfl)) rfl dX4_firstWrong_6 ?_
      refine lv_icmp_ge (tgt := 35) hx hb dX4_firstWrong_9 (by decide) (fun c1 => ?_) (fun c1 => absurd (nI_le (a := n) (b := i) (by omega) (by omega)) c1)
      refine lv_aload_n hx hb dX4_firstWrong_35 rfl (lv_at hl 0 rfl) ?_
      refine dp_get hx hb hts (dp_hin 13 rfl) hown hK hT.1 rfl 1 (by decide) (hts (.fieldLink RX4 15 "DroopBoard$OrderText" "length" "I") (List.mem_of_getElem? (i := 1) rfl)) rfl dX4_firstWrong_36 ?_
      exact W.iret hx hb hr (fun t ht hW => ⟨⟨nI n, s.heap, rfl, ⟨rfl, by rw [hf]; show nI i = nI n; rw [show i = n by omega]⟩, ht⟩, hS.F ht⟩) hS.2.2 dX4_firstWrong_39
    | succ m9 ih4 =>
      intro i hin hf locs hS ls hl
      refine lv_iload_n hx hb dX4_firstWrong_4 rfl (lv_at hl 2 rfl) ?_
      refine lv_aload_n hx hb dX4_firstWrong_5 rfl (lv_at hl 0 rfl) ?_
      refine dp_get hx hb hts (dp_hin 13 rfl) hown hK hT.1 rfl 1 (by decide) (hts (.fieldLink RX4 15 "DroopBoard$OrderText" "length" "I") (List.mem_of_getElem? (i := 1) rfl)) rfl dX4_firstWrong_6 ?_
      refine lv_icmp_ge (tgt := 35) hx hb dX4_firstWrong_9 (by decide) (fun c2 => absurd c2 (nI_ge (a := i) (b := n) (by omega) (by omega))) (fun c2 => ?_)
      refine lv_iload_n hx hb dX4_firstWrong_12 rfl (lv_at hl 1 rfl) ?_
      refine lv_aload_n hx hb dX4_firstWrong_13 rfl (lv_at hl 0 rfl) ?_
      refine dp_get hx hb hts (dp_hin 13 rfl) hown hK hT.1 rfl 0 (by decide) (hts (.fieldLink RX4 9 "DroopBoard$OrderText" "codes" "[I") (List.mem_of_getElem? (i := 2) rfl)) rfl dX4_firstWrong_14 ?_
      refine lv_iload_n hx hb dX4_firstWrong_17 rfl (lv_at hl 2 rfl) ?_
      refine dp_iald hx hb hK hT.2 0 rfl i rfl (by omega) (by decide) dX4_firstWrong_18 ?_
      refine dp_Si hF hK hN (c_X4_next l D G (dfa F i) (F i) _) (va_cwS 2 hts gX4_firstWrong_X4_next rfl rfl rfl (by decide +kernel) ⟨Nat.le_of_ble_eq_true rfl, Nat.le_of_ble_eq_true rfl⟩) hS nA_i [] rfl rfl hl.1 (Nat.le_of_ble_eq_true rfl) dX4_firstWrong_19 ⟨Nat.le_of_ble_eq_true rfl, Nat.le_of_ble_eq_true rfl⟩ (fun rH1 H1 locs hp hzH1 hkH1 hS => ?_)
      obtain ⟨rfl, rfl⟩ := hp
      refine lv_istore_n (lv' := [(1, .int (nxt (dfa F i) (F i))), (0, .ref (x 0)), (2, .int (nI i))]) hx hb dX4_firstWrong_22 rfl hl (by decide) rfl (fun ls hl => ?_)
      refine lv_iload_n hx hb dX4_firstWrong_23 rfl (lv_at hl 0 rfl) ?_
      refine lv_if_ne (tgt := 29) hx hb dX4_firstWrong_24 (by decide) (fun c3 => ?_) (fun c3 => ?_)
      · refine lv_iinc (v := nI (i + 1)) (lv' := [(2, .int (nI (i + 1))), (1, .int (nxt (dfa F i) (F i))), (0, .ref (x 0))]) hx hb dX4_firstWrong_29 hl (k := 2) rfl (nI_1 i) (by decide) rfl (fun ls hl => ?_)
        refine lv_goto (tgt := 4) hx hb dX4_firstWrong_32 (by decide) ?_
        exact ih4 (i + 1) (by omega) (hf.trans (by rw [fwr, if_neg (show ¬ dfa F (i + 1) = 0 from c3)])) _ hS _ (lv_sub hl [2, 1, 0] rfl)
      refine lv_iload_n hx hb dX4_firstWrong_27 rfl (lv_at hl 2 rfl) ?_
      exact W.iret hx hb hr (fun t ht hW => ⟨⟨nI i, s.heap, rfl, ⟨rfl, by rw [hf, fwr, if_pos (show dfa F (i + 1) = 0 from c3)]⟩, ht⟩, hS.F ht⟩) hS.2.2 dX4_firstWrong_28
  exact loop4 n 0 (by omega) rfl _ hS _ (lv_sub hl [2, 1, 0] rfl)

set_option maxHeartbeats 600000 in
set_option maxRecDepth 100000 in
theorem c_X4_isComplete (l : Launch) (D : va_G) (G : Nat → ClassId) (x : Nat → Nat) (F : Nat → Int32) (n : Nat) (H : Heap) (hT : TX D G x F n H) (hn6 : n ≤ 60) : Met l yX4_isComplete wsX4_isComplete ({ frames := 2, cells := 0, slots := 0, locals := 44 } : Room) (va_Pc [.ref (x 0)] (CX D G H)) (QI nA (fun r h => H = h ∧ (if dfa F n = 16 then 1 else if dfa F n = 15 then 1 else 0) = r)) 0 0 (nA) := by
  refine Met.ofW (cc := cX4_isComplete) (maxL := 3) (ret := (some .boolean)) (by decide) rfl ?_
  intro p e s m args below meth c s₁ B0 hml hv
  obtain ⟨rfl, rfl, hK, hN⟩ := hv
  have hx := B0.exec
  have hb := B0.bytes
  have hr := B0.returns
  have hts := atoms_spec (ws := wsX4_isComplete) B0.pre
  have hown : s.vm.findClass RX4 = some m.cls := findClass_of_methodNamed B0.named
  have hlocks := B0.notSynchronized
  have hF : CallFix p m c cX4_isComplete 3 s ([.ref (x 0)] : List Value).toArray wsX4_isComplete RX4 := ⟨hx, hb, hml, hown, hts⟩
  have hS : va_S (nA) s.heap s.heap [] := va_S.rf
  have hl := lv_entry ([.ref (x 0)]) (n := 3) (Nat.le_of_ble_eq_true rfl)
  rw [lg_entry_eq]
  generalize (lg_sl ([.ref (x 0)]) ++ List.replicate (3 - (lg_sl ([.ref (x 0)])).length) Slot.unset).toArray = ls at hl ⊢
  have hl : lv_has ls 3 [(0, .ref (x 0))] := hl
  refine lv_iconst (v := 1) hx hb dX4_isComplete_0 (by decide) ?_
  refine lv_istore_n (lv' := [(1, .int 1), (0, .ref (x 0))]) hx hb dX4_isComplete_1 rfl hl (by decide) rfl (fun ls hl => ?_)
  refine lv_iconst (v := 0) hx hb dX4_isComplete_2 (by decide) ?_
  refine lv_istore_n (lv' := [(2, .int 0), (1, .int 1), (0, .ref (x 0))]) hx hb dX4_isComplete_3 rfl hl (by decide) rfl (fun ls hl => ?_)
  have loop4 : ∀ (m9 : Nat) (i : Nat) (_ : i + m9 = n) (locs : List Loc) (_ : va_S (nA) s.heap s.heap locs) (ls : Array Slot) (_ : lv_has ls 3 [(0, .ref (x 0)), (1, .int (dfa F i)), (2, .int (nI i))]), W p l e (headSpec wsX4_isComplete ({ frames := 2, cells := 0, slots := 0, locals := 44 } : Room)).room s m ([.ref (x 0)] : List Value).toArray below meth c s.heap locs 0 0 (MQ below (QI nA (fun r h => s.heap = h ∧ (if dfa F n = 16 then 1 else if dfa F n = 15 then 1 else 0) = r)) ([.ref (x 0)] : List Value).toArray s 0 0 (nA)) (F0 m 4 ls []) := by
    intro m9
    induction m9 with
    | zero =>
      intro i hin locs hS ls hl
      have hi9 : i = n := by omega
      refine lv_iload_n hx hb dX4_isComplete_4 rfl (lv_at hl 2 rfl) ?_
      refine lv_aload_n hx hb dX4_isComplete_5 rfl (lv_at hl 0 rfl) ?_
      refine dp_get hx hb hts (dp_hin 13 rfl) hown hK hT.1 rfl 1 (by decide) (hts (.fieldLink RX4 15 "DroopBoard$OrderText" "length" "I") (List.mem_of_getElem? (i := 1) rfl)) rfl dX4_isComplete_6 ?_
      refine lv_icmp_ge (tgt := 29) hx hb dX4_isComplete_9 (by decide) (fun c1 => ?_) (fun c1 => absurd (nI_le (a := n) (b := i) (by omega) (by omega)) c1)
      refine lv_iload_n hx hb dX4_isComplete_29 rfl (lv_at hl 1 rfl) ?_
      refine lv_bipush (v := 16) hx hb dX4_isComplete_30 (by decide) ?_
      refine lv_icmp_eq (tgt := 41) hx hb dX4_isComplete_32 (by decide) (fun c2 => ?_) (fun c2 => ?_)
      · refine lv_iconst (v := 1) hx hb dX4_isComplete_41 (by decide) ?_
        refine lv_goto (tgt := 46) hx hb dX4_isComplete_42 (by decide) ?_
        exact W.zret (ty := .boolean) hx hb hr rfl (fun t ht hW => ⟨⟨1, s.heap, rfl, ⟨rfl, by rw [← hi9]; simp [c2]⟩, ht⟩, hS.F ht⟩) hS.2.2 dX4_isComplete_46
      refine lv_iload_n hx hb dX4_isComplete_35 rfl (lv_at hl 1 rfl) ?_
      refine lv_bipush (v := 15) hx hb dX4_isComplete_36 (by decide) ?_
      refine lv_icmp_ne (tgt := 45) hx hb dX4_isComplete_38 (by decide) (fun c3 => ?_) (fun c3 => ?_)
      · refine lv_iconst (v := 0) hx hb dX4_isComplete_45 (by decide) ?_
        exact W.zret (ty := .boolean) hx hb hr rfl (fun t ht hW => ⟨⟨0, s.heap, rfl, ⟨rfl, by rw [← hi9]; simp [c2, c3]⟩, ht⟩, hS.F ht⟩) hS.2.2 dX4_isComplete_46
      refine lv_iconst (v := 1) hx hb dX4_isComplete_41 (by decide) ?_
      refine lv_goto (tgt := 46) hx hb dX4_isComplete_42 (by decide) ?_
      exact W.zret (ty := .boolean) hx hb hr rfl (fun t ht hW => ⟨⟨1, s.heap, rfl, ⟨rfl, by rw [← hi9]; simp [c2, c3]⟩, ht⟩, hS.F ht⟩) hS.2.2 dX4_isComplete_46
    | succ m9 ih4 =>
      intro i hin locs hS ls hl
      refine lv_iload_n hx hb dX4_isComplete_4 rfl (lv_at hl 2 rfl) ?_
      refine lv_aload_n hx hb dX4_isComplete_5 rfl (lv_at hl 0 rfl) ?_
      refine dp_get hx hb hts (dp_hin 13 rfl) hown hK hT.1 rfl 1 (by decide) (hts (.fieldLink RX4 15 "DroopBoard$OrderText" "length" "I") (List.mem_of_getElem? (i := 1) rfl)) rfl dX4_isComplete_6 ?_
      refine lv_icmp_ge (tgt := 29) hx hb dX4_isComplete_9 (by decide) (fun c4 => absurd c4 (nI_ge (a := i) (b := n) (by omega) (by omega))) (fun c4 => ?_)
      refine lv_iload_n hx hb dX4_isComplete_12 rfl (lv_at hl 1 rfl) ?_
      refine lv_aload_n hx hb dX4_isComplete_13 rfl (lv_at hl 0 rfl) ?_
      refine dp_get hx hb hts (dp_hin 13 rfl) hown hK hT.1 rfl 0 (by decide) (hts (.fieldLink RX4 9 "DroopBoard$OrderText" "codes" "[I") (List.mem_of_getElem? (i := 2) rfl)) rfl dX4_isComplete_14 ?_
      refine lv_iload_n hx hb dX4_isComplete_17 rfl (lv_at hl 2 rfl) ?_
      refine dp_iald hx hb hK hT.2 0 rfl i rfl (by omega) (by decide) dX4_isComplete_18 ?_
      refine dp_Si hF hK hN (c_X4_next l D G (dfa F i) (F i) _) (va_cwS 2 hts gX4_isComplete_X4_next rfl rfl rfl (by decide +kernel) ⟨Nat.le_of_ble_eq_true rfl, Nat.le_of_ble_eq_true rfl⟩) hS nA_i [] rfl rfl hl.1 (Nat.le_of_ble_eq_true rfl) dX4_isComplete_19 ⟨Nat.le_of_ble_eq_true rfl, Nat.le_of_ble_eq_true rfl⟩ (fun rH1 H1 locs hp hzH1 hkH1 hS => ?_)
      obtain ⟨rfl, rfl⟩ := hp
      refine lv_istore_n (lv' := [(1, .int (nxt (dfa F i) (F i))), (0, .ref (x 0)), (2, .int (nI i))]) hx hb dX4_isComplete_22 rfl hl (by decide) rfl (fun ls hl => ?_)
      refine lv_iinc (v := nI (i + 1)) (lv' := [(2, .int (nI (i + 1))), (1, .int (nxt (dfa F i) (F i))), (0, .ref (x 0))]) hx hb dX4_isComplete_23 hl (k := 2) rfl (nI_1 i) (by decide) rfl (fun ls hl => ?_)
      refine lv_goto (tgt := 4) hx hb dX4_isComplete_26 (by decide) ?_
      exact ih4 (i + 1) (by omega) _ hS _ (lv_sub hl [2, 1, 0] rfl)
  exact loop4 n 0 (by omega) _ hS _ (lv_sub hl [2, 1, 0] rfl)

set_option maxHeartbeats 600000 in
set_option maxRecDepth 100000 in
theorem c_X4_endOfPart (l : Launch) (D : va_G) (G : Nat → ClassId) (x : Nat → Nat) (F : Nat → Int32) (n : Nat) (a : Nat) (H : Heap) (hT : TX D G x F n H) (hn6 : n ≤ 60) (ha : a ≤ n) : Met l yX4_endOfPart wsX4_endOfPart ({ frames := 1, cells := 0, slots := 0, locals := 21 } : Room) (va_Pc [.ref (x 0), .int (nI a)] (CX D G H)) (QI nA (fun r h => H = h ∧ nI (eop F a (n - a)) = r)) 0 0 (nA) := by
  refine Met.ofW (cc := cX4_endOfPart) (maxL := 3) (ret := (some .int)) (by decide) rfl ?_
  intro p e s m args below meth c s₁ B0 hml hv
  obtain ⟨rfl, rfl, hK, hN⟩ := hv
  have hx := B0.exec
  have hb := B0.bytes
  have hr := B0.returns
  have hts := atoms_spec (ws := wsX4_endOfPart) B0.pre
  have hown : s.vm.findClass RX4 = some m.cls := findClass_of_methodNamed B0.named
  have hlocks := B0.notSynchronized
  have hF : CallFix p m c cX4_endOfPart 3 s ([.ref (x 0), .int (nI a)] : List Value).toArray wsX4_endOfPart RX4 := ⟨hx, hb, hml, hown, hts⟩
  have hS : va_S (nA) s.heap s.heap [] := va_S.rf
  have hl := lv_entry ([.ref (x 0), .int (nI a)]) (n := 3) (Nat.le_of_ble_eq_true rfl)
  rw [lg_entry_eq]
  generalize (lg_sl ([.ref (x 0), .int (nI a)]) ++ List.replicate (3 - (lg_sl ([.ref (x 0), .int (nI a)])).length) Slot.unset).toArray = ls at hl ⊢
  have hl : lv_has ls 3 [(0, .ref (x 0)), (1, .int (nI a))] := hl
  refine lv_iload_n hx hb dX4_endOfPart_0 rfl (lv_at hl 1 rfl) ?_
  refine lv_istore_n (lv' := [(2, .int (nI a)), (0, .ref (x 0)), (1, .int (nI a))]) hx hb dX4_endOfPart_1 rfl hl (by decide) rfl (fun ls hl => ?_)
  have loop2 : ∀ (m9 : Nat) (i : Nat) (_ : i + m9 = n) (_ : eop F a (n - a) = eop F i m9) (locs : List Loc) (_ : va_S (nA) s.heap s.heap locs) (ls : Array Slot) (_ : lv_has ls 3 [(0, .ref (x 0)), (1, .int (nI a)), (2, .int (nI i))]), W p l e (headSpec wsX4_endOfPart ({ frames := 1, cells := 0, slots := 0, locals := 21 } : Room)).room s m ([.ref (x 0), .int (nI a)] : List Value).toArray below meth c s.heap locs 0 0 (MQ below (QI nA (fun r h => s.heap = h ∧ nI (eop F a (n - a)) = r)) ([.ref (x 0), .int (nI a)] : List Value).toArray s 0 0 (nA)) (F0 m 2 ls []) := by
    intro m9
    induction m9 with
    | zero =>
      intro i hin hf locs hS ls hl
      refine lv_iload_n hx hb dX4_endOfPart_2 rfl (lv_at hl 2 rfl) ?_
      refine lv_aload_n hx hb dX4_endOfPart_3 rfl (lv_at hl 0 rfl) ?_
      refine dp_get hx hb hts (dp_hin 8 rfl) hown hK hT.1 rfl 1 (by decide) (hts (.fieldLink RX4 15 "DroopBoard$OrderText" "length" "I") (List.mem_of_getElem? (i := 1) rfl)) rfl dX4_endOfPart_4 ?_
      refine lv_icmp_ge (tgt := 28) hx hb dX4_endOfPart_7 (by decide) (fun c1 => ?_) (fun c1 => absurd (nI_le (a := n) (b := i) (by omega) (by omega)) c1)
      refine lv_aload_n hx hb dX4_endOfPart_28 rfl (lv_at hl 0 rfl) ?_
      refine dp_get hx hb hts (dp_hin 8 rfl) hown hK hT.1 rfl 1 (by decide) (hts (.fieldLink RX4 15 "DroopBoard$OrderText" "length" "I") (List.mem_of_getElem? (i := 1) rfl)) rfl dX4_endOfPart_29 ?_
      exact W.iret hx hb hr (fun t ht hW => ⟨⟨nI n, s.heap, rfl, ⟨rfl, by rw [hf]; show nI i = nI n; rw [show i = n by omega]⟩, ht⟩, hS.F ht⟩) hS.2.2 dX4_endOfPart_32
    | succ m9 ih2 =>
      intro i hin hf locs hS ls hl
      refine lv_iload_n hx hb dX4_endOfPart_2 rfl (lv_at hl 2 rfl) ?_
      refine lv_aload_n hx hb dX4_endOfPart_3 rfl (lv_at hl 0 rfl) ?_
      refine dp_get hx hb hts (dp_hin 8 rfl) hown hK hT.1 rfl 1 (by decide) (hts (.fieldLink RX4 15 "DroopBoard$OrderText" "length" "I") (List.mem_of_getElem? (i := 1) rfl)) rfl dX4_endOfPart_4 ?_
      refine lv_icmp_ge (tgt := 28) hx hb dX4_endOfPart_7 (by decide) (fun c2 => absurd c2 (nI_ge (a := i) (b := n) (by omega) (by omega))) (fun c2 => ?_)
      refine lv_aload_n hx hb dX4_endOfPart_10 rfl (lv_at hl 0 rfl) ?_
      refine lv_iload_n hx hb dX4_endOfPart_11 rfl (lv_at hl 2 rfl) ?_
      refine dp_Vi hF hK hN (c_X4_codeAt l D G x F n i _ hT hn6 (by omega)) (cwV 1 hts gX4_endOfPart_X4_codeAt rfl rfl rfl (by decide +kernel) ⟨Nat.le_of_ble_eq_true rfl, Nat.le_of_ble_eq_true rfl⟩) (dp_recv hK hT.1 rfl) hS nA_i [] rfl rfl hl.1 (Nat.le_of_ble_eq_true rfl) dX4_endOfPart_12 ⟨Nat.le_of_ble_eq_true rfl, Nat.le_of_ble_eq_true rfl⟩ (fun rH1 H1 locs hp hzH1 hkH1 hS => ?_)
      obtain ⟨rfl, rfl⟩ := hp
      refine lv_bipush (v := 59) hx hb dX4_endOfPart_15 (by decide) ?_
      refine lv_icmp_ne (tgt := 22) hx hb dX4_endOfPart_17 (by decide) (fun c3 => ?_) (fun c3 => ?_)
      · refine lv_iinc (v := nI (i + 1)) (lv' := [(2, .int (nI (i + 1))), (0, .ref (x 0)), (1, .int (nI a))]) hx hb dX4_endOfPart_22 hl (k := 2) rfl (nI_1 i) (by decide) rfl (fun ls hl => ?_)
        refine lv_goto (tgt := 2) hx hb dX4_endOfPart_25 (by decide) ?_
        exact ih2 (i + 1) (by omega) (hf.trans (by rw [eop, if_neg (by rw [← cod_in (F := F) (n := n) (k := i) (by omega)]; exact c3)])) _ hS _ (lv_sub hl [1, 2, 0] rfl)
      refine lv_iload_n hx hb dX4_endOfPart_20 rfl (lv_at hl 2 rfl) ?_
      exact W.iret hx hb hr (fun t ht hW => ⟨⟨nI i, s.heap, rfl, ⟨rfl, by rw [hf, eop, if_pos (by rw [← cod_in (F := F) (n := n) (k := i) (by omega)]; exact c3)]⟩, ht⟩, hS.F ht⟩) hS.2.2 dX4_endOfPart_21
  exact loop2 (n - a) a (by omega) rfl _ hS _ (lv_sub hl [1, 2, 0] rfl)

set_option maxHeartbeats 600000 in
set_option maxRecDepth 100000 in
theorem c_X4_number (l : Launch) (D : va_G) (G : Nat → ClassId) (x : Nat → Nat) (F : Nat → Int32) (n : Nat) (a t : Nat) (H : Heap) (hT : TX D G x F n H) (hn6 : n ≤ 60) (hat : a + t < 1000) : Met l yX4_number wsX4_number ({ frames := 1, cells := 0, slots := 0, locals := 21 } : Room) (va_Pc [.ref (x 0), .int (nI a), .int (nI (a + t))] (CX D G H)) (QI nA (fun r h => H = h ∧ nmb F n a t = r)) 0 0 (nA) := by
  refine Met.ofW (cc := cX4_number) (maxL := 5) (ret := (some .int)) (by decide) rfl ?_
  intro p e s m args below meth c s₁ B0 hml hv
  obtain ⟨rfl, rfl, hK, hN⟩ := hv
  have hx := B0.exec
  have hb := B0.bytes
  have hr := B0.returns
  have hts := atoms_spec (ws := wsX4_number) B0.pre
  have hown : s.vm.findClass RX4 = some m.cls := findClass_of_methodNamed B0.named
  have hlocks := B0.notSynchronized
  have hF : CallFix p m c cX4_number 5 s ([.ref (x 0), .int (nI a), .int (nI (a + t))] : List Value).toArray wsX4_number RX4 := ⟨hx, hb, hml, hown, hts⟩
  have hS : va_S (nA) s.heap s.heap [] := va_S.rf
  have hl := lv_entry ([.ref (x 0), .int (nI a), .int (nI (a + t))]) (n := 5) (Nat.le_of_ble_eq_true rfl)
  rw [lg_entry_eq]
  generalize (lg_sl ([.ref (x 0), .int (nI a), .int (nI (a + t))]) ++ List.replicate (5 - (lg_sl ([.ref (x 0), .int (nI a), .int (nI (a + t))])).length) Slot.unset).toArray = ls at hl ⊢
  have hl : lv_has ls 5 [(0, .ref (x 0)), (1, .int (nI a)), (2, .int (nI (a + t)))] := hl
  refine lv_iconst (v := 0) hx hb dX4_number_0 (by decide) ?_
  refine lv_istore_n (lv' := [(3, .int 0), (0, .ref (x 0)), (1, .int (nI a)), (2, .int (nI (a + t)))]) hx hb dX4_number_1 rfl hl (by decide) rfl (fun ls hl => ?_)
  refine lv_iload_n hx hb dX4_number_2 rfl (lv_at hl 2 rfl) ?_
  refine lv_istore (lv' := [(4, .int (nI a)), (3, .int 0), (0, .ref (x 0)), (1, .int (nI a)), (2, .int (nI (a + t)))]) hx hb dX4_number_3 hl (by decide) rfl (fun ls hl => ?_)
  have loop5 : ∀ (m9 : Nat) (i : Nat) (acc : Int32) (_ : i + m9 = t) (_ : acc = nmb F n a i) (locs : List Loc) (_ : va_S (nA) s.heap s.heap locs) (ls : Array Slot) (_ : lv_has ls 5 [(0, .ref (x 0)), (1, .int (nI a)), (2, .int (nI (a + t))), (3, .int acc), (4, .int (nI (a + i)))]), W p l e (headSpec wsX4_number ({ frames := 1, cells := 0, slots := 0, locals := 21 } : Room)).room s m ([.ref (x 0), .int (nI a), .int (nI (a + t))] : List Value).toArray below meth c s.heap locs 0 0 (MQ below (QI nA (fun r h => s.heap = h ∧ nmb F n a t = r)) ([.ref (x 0), .int (nI a), .int (nI (a + t))] : List Value).toArray s 0 0 (nA)) (F0 m 5 ls []) := by
    intro m9
    induction m9 with
    | zero =>
      intro i acc hin hacc locs hS ls hl
      have hi9 : i = t := by omega
      rw [hi9] at hacc
      refine lv_iload hx hb dX4_number_5 (lv_at hl 4 rfl) ?_
      refine lv_iload_n hx hb dX4_number_7 rfl (lv_at hl 2 rfl) ?_
      refine lv_icmp_ge (tgt := 32) hx hb dX4_number_8 (by decide) (fun c1 => ?_) (fun c1 => absurd (nI_le (a := a + t) (b := a + i) (by omega) (by omega)) c1)
      refine lv_iload_n hx hb dX4_number_32 rfl (lv_at hl 3 rfl) ?_
      exact W.iret hx hb hr (fun t ht hW => ⟨⟨acc, s.heap, rfl, ⟨rfl, hacc.symm⟩, ht⟩, hS.F ht⟩) hS.2.2 dX4_number_33
    | succ m9 ih5 =>
      intro i acc hin hacc locs hS ls hl
      refine lv_iload hx hb dX4_number_5 (lv_at hl 4 rfl) ?_
      refine lv_iload_n hx hb dX4_number_7 rfl (lv_at hl 2 rfl) ?_
      refine lv_icmp_ge (tgt := 32) hx hb dX4_number_8 (by decide) (fun c2 => absurd c2 (nI_ge (a := a + i) (b := a + t) (by omega) (by omega))) (fun c2 => ?_)
      refine lv_bipush (v := 10) hx hb dX4_number_11 (by decide) ?_
      refine lv_iload_n hx hb dX4_number_13 rfl (lv_at hl 3 rfl) ?_
      refine lv_imul hx hb dX4_number_14 ?_
      refine lv_aload_n hx hb dX4_number_15 rfl (lv_at hl 0 rfl) ?_
      refine lv_iload hx hb dX4_number_16 (lv_at hl 4 rfl) ?_
      refine dp_Vi hF hK hN (c_X4_codeAt l D G x F n (a + i) _ hT hn6 (by omega)) (cwV 1 hts gX4_number_X4_codeAt rfl rfl rfl (by decide +kernel) ⟨Nat.le_of_ble_eq_true rfl, Nat.le_of_ble_eq_true rfl⟩) (dp_recv hK hT.1 rfl) hS nA_i [.int (10 * acc)] rfl rfl hl.1 (Nat.le_of_ble_eq_true rfl) dX4_number_18 ⟨Nat.le_of_ble_eq_true rfl, Nat.le_of_ble_eq_true rfl⟩ (fun rH1 H1 locs hp hzH1 hkH1 hS => ?_)
      obtain ⟨rfl, rfl⟩ := hp
      refine lv_iadd hx hb dX4_number_21 ?_
      refine lv_bipush (v := 48) hx hb dX4_number_22 (by decide) ?_
      refine lv_isub hx hb dX4_number_24 ?_
      refine lv_istore_n (lv' := [(3, .int (((10 * acc) + (cod F n (a + i))) - 48)), (0, .ref (x 0)), (1, .int (nI a)), (2, .int (nI (a + t))), (4, .int (nI (a + i)))]) hx hb dX4_number_25 rfl hl (by decide) rfl (fun ls hl => ?_)
      refine lv_iinc (v := nI (a + (i + 1))) (lv' := [(4, .int (nI (a + (i + 1)))), (3, .int (((10 * acc) + (cod F n (a + i))) - 48)), (0, .ref (x 0)), (1, .int (nI a)), (2, .int (nI (a + t)))]) hx hb dX4_number_26 hl (k := 4) rfl (nI_1 (a + i)) (by decide) rfl (fun ls hl => ?_)
      refine lv_goto (tgt := 5) hx hb dX4_number_29 (by decide) ?_
      exact ih5 (i + 1) (((10 * acc) + (cod F n (a + i))) - 48) (by omega) (by rw [nmb, hacc]) _ hS _ (lv_sub hl [2, 3, 4, 1, 0] rfl)
  exact loop5 t 0 0 (by omega) rfl _ hS _ (lv_sub hl [2, 3, 4, 1, 0] rfl)

set_option maxHeartbeats 600000 in
set_option maxRecDepth 100000 in
theorem c_X4_add (l : Launch) (D : va_G) (G : Nat → ClassId) (x : Nat → Nat) (F : Nat → Int32) (n : Nat) (q : Int32) (H : Heap) (hT : TX D G x F n H) (hn6 : n ≤ 60) (hn : inj 2 x) (hlt : n < 60) : Met l yX4_add wsX4_add ({ frames := 1, cells := 0, slots := 0, locals := 20 } : Room) (va_Pc [.ref (x 0), .int q] (CX D G H)) (QV (bA 2 x) (fun h => Array.size h = Array.size H ∧ TX D G x (upd F n q) (n + 1) h)) 0 0 (bA 2 x) := by
  refine Met.ofW (cc := cX4_add) (maxL := 2) (ret := none) (by decide) rfl ?_
  intro p e s m args below meth c s₁ B0 hml hv
  obtain ⟨rfl, rfl, hK, hN⟩ := hv
  have hx := B0.exec
  have hb := B0.bytes
  have hr := B0.returns
  have hts := atoms_spec (ws := wsX4_add) B0.pre
  have hown : s.vm.findClass RX4 = some m.cls := findClass_of_methodNamed B0.named
  have hlocks := B0.notSynchronized
  have hF : CallFix p m c cX4_add 2 s ([.ref (x 0), .int q] : List Value).toArray wsX4_add RX4 := ⟨hx, hb, hml, hown, hts⟩
  have hS : va_S (bA 2 x) s.heap s.heap [] := va_S.rf
  have hl := lv_entry ([.ref (x 0), .int q]) (n := 2) (Nat.le_of_ble_eq_true rfl)
  rw [lg_entry_eq]
  generalize (lg_sl ([.ref (x 0), .int q]) ++ List.replicate (2 - (lg_sl ([.ref (x 0), .int q])).length) Slot.unset).toArray = ls at hl ⊢
  have hl : lv_has ls 2 [(0, .ref (x 0)), (1, .int q)] := hl
  have hsz : Array.size s.heap = Array.size s.heap := rfl
  refine lv_aload_n hx hb dX4_add_0 rfl (lv_at hl 0 rfl) ?_
  refine dp_Vi hF hK hN (c_X4_isFull l D G x F n _ hT hn6) (cwV 0 hts gX4_add_X4_isFull rfl rfl rfl (by decide +kernel) ⟨Nat.le_of_ble_eq_true rfl, Nat.le_of_ble_eq_true rfl⟩) (dp_recv hK hT.1 rfl) hS nA_i [] rfl rfl hl.1 (Nat.le_of_ble_eq_true rfl) dX4_add_1 ⟨Nat.le_of_ble_eq_true rfl, Nat.le_of_ble_eq_true rfl⟩ (fun rH1 H1 locs hp hzH1 hkH1 hS => ?_)
  obtain ⟨rfl, rfl⟩ := hp
  refine lv_if_ne (tgt := 27) hx hb dX4_add_4 (by decide) (fun c1 => absurd c1 (by rw [if_pos hlt]; decide)) (fun c1 => ?_)
  refine lv_aload_n hx hb dX4_add_7 rfl (lv_at hl 0 rfl) ?_
  refine dp_get hx hb hts (dp_hin 8 rfl) hown hK hT.1 rfl 0 (by decide) (hts (.fieldLink RX4 9 "DroopBoard$OrderText" "codes" "[I") (List.mem_of_getElem? (i := 1) rfl)) rfl dX4_add_8 ?_
  refine lv_aload_n hx hb dX4_add_11 rfl (lv_at hl 0 rfl) ?_
  refine dp_get hx hb hts (dp_hin 8 rfl) hown hK hT.1 rfl 1 (by decide) (hts (.fieldLink RX4 15 "DroopBoard$OrderText" "length" "I") (List.mem_of_getElem? (i := 2) rfl)) rfl dX4_add_12 ?_
  refine lv_iload_n hx hb dX4_add_15 rfl (lv_at hl 1 rfl) ?_
  refine dp_iast (A := bA 2 x) hx hb hK hT.2 ⟨1, by omega, rfl⟩ hS 0 rfl n rfl (by omega) (by decide) dX4_add_16 (fun H2 locs hH2 hzH2 hkH2 hS => ?_)
  have hT : TX D G x (upd F n q) n H2 := hT.putC hn hH2 hkH2
  have hsz := hzH2.trans hsz
  refine lv_aload_n hx hb dX4_add_17 rfl (lv_at hl 0 rfl) ?_
  refine lv_dup hx hb dX4_add_18 rfl ?_
  refine dp_get hx hb hts (dp_hin 8 rfl) hown hK hT.1 rfl 1 (by decide) (hts (.fieldLink RX4 15 "DroopBoard$OrderText" "length" "I") (List.mem_of_getElem? (i := 2) rfl)) rfl dX4_add_19 ?_
  refine lv_iconst (v := 1) hx hb dX4_add_22 (by decide) ?_
  refine lv_iadd hx hb dX4_add_23 ?_
  refine dp_put (A := bA 2 x) (v := .int ((nI n) + 1)) hx hb hts (dp_hin 8 rfl) tyX4 tyX4_ok nmX4 hown hK hT.1 ⟨0, by omega, rfl⟩ hS rfl 1 (by decide) (hts (.fieldLink RX4 15 "DroopBoard$OrderText" "length" "I") (List.mem_of_getElem? (i := 2) rfl)) rfl rfl rfl (Nat.le_of_ble_eq_true rfl) dX4_add_24 (fun H3 locs hH3 hzH3 hkH3 hS => ?_)
  have hT : TX D G x (upd F n q) (n + 1) H3 := hT.putN hn (by rw [← nI_1]; exact hH3) hkH3
  have hsz := hzH3.trans hsz
  exact W.vret hx hb hr (fun t ht hW => ⟨⟨H3, rfl, ⟨hsz, hT⟩, ht⟩, hS.F ht⟩) hS.2.2 dX4_add_27
