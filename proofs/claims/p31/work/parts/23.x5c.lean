set_option maxHeartbeats 600000 in
set_option maxRecDepth 100000 in
theorem c_X5_tellOfFeeder (l : Launch) (D : va_G) (G : Nat → ClassId) (α : Nat → Nat) (w : Nat → Nat) (R RT RS : Nat → Int32) (kp : Int32) (sv : Nat → Nat → Int32) (n : Nat) (F : Nat → Int32) (len : Nat) (j : Nat) (q : Int32) (H : Heap) (hα : inj 115 α) (hw : pm w) (hD : DP D G α w R RT RS kp sv n F len H) (hbz : bz R) (hm : mono R) (hn6 : n ≤ 6) (hl6 : len ≤ 60) (hj : j < 4) : Met l yX5_tellOfFeeder wsX5_tellOfFeeder ({ frames := 1, cells := 0, slots := 0, locals := 20 } : Room) (va_Pc [.ref (α 0), .int (nI j), .int q] (CX D G H)) (QI nA (fun r h => H = h ∧ tfee R j q = r)) 0 0 (nA) := by
  refine Met.ofW (cc := cX5_tellOfFeeder) (maxL := 3) (ret := (some .int)) (by decide) rfl ?_
  intro p e s m args below meth c s₁ B0 hml hv
  obtain ⟨rfl, rfl, hK, hN⟩ := hv
  have hx := B0.exec
  have hb := B0.bytes
  have hr := B0.returns
  have hts := atoms_spec (ws := wsX5_tellOfFeeder) B0.pre
  have hown : s.vm.findClass RX5 = some m.cls := findClass_of_methodNamed B0.named
  have hlocks := B0.notSynchronized
  have hF : CallFix p m c cX5_tellOfFeeder 3 s ([.ref (α 0), .int (nI j), .int q] : List Value).toArray wsX5_tellOfFeeder RX5 := ⟨hx, hb, hml, hown, hts⟩
  have hS : va_S (nA) s.heap s.heap [] := va_S.rf
  have hl := lv_entry ([.ref (α 0), .int (nI j), .int q]) (n := 3) (Nat.le_of_ble_eq_true rfl)
  rw [lg_entry_eq]
  generalize (lg_sl ([.ref (α 0), .int (nI j), .int q]) ++ List.replicate (3 - (lg_sl ([.ref (α 0), .int (nI j), .int q])).length) Slot.unset).toArray = ls at hl ⊢
  have hl : lv_has ls 3 [(0, .ref (α 0)), (1, .int (nI j)), (2, .int q)] := hl
  refine lv_iload_n hx hb dX5_tellOfFeeder_0 rfl (lv_at hl 2 rfl) ?_
  by_cases e1 : q = 0
  · refine lv_lookup (off := 27) (tgt := 28) hx hb dX5_tellOfFeeder_1 (by decide) (by rw [e1]; decide) (by decide) ?_
    refine lv_aload_n hx hb dX5_tellOfFeeder_28 rfl (lv_at hl 0 rfl) ?_
    refine dp_get hx hb hts (dp_hin 10 rfl) hown hK hD.1 rfl 0 (by decide) (hts (.fieldLink RX5 10 "DroopBoard" "board" "LDroopBoard$Board;") (List.mem_of_getElem? (i := 1) rfl)) rfl dX5_tellOfFeeder_29 ?_
    refine dp_get hx hb hts (dp_hin 16 rfl) hown hK hD.2.1.1 rfl 1 (by decide) (hts (.fieldLink RX5 119 "DroopBoard$Board" "feeders" "[LDroopBoard$Feeder;") (List.mem_of_getElem? (i := 2) rfl)) rfl dX5_tellOfFeeder_32 ?_
    refine lv_iload_n hx hb dX5_tellOfFeeder_35 rfl (lv_at hl 1 rfl) ?_
    refine dp_aald hx hb hK hD.2.1.2.2.1 2 rfl j rfl hj (by decide) rfl dX5_tellOfFeeder_36 ?_
    refine dp_get hx hb hts (dp_hin 21 rfl) hown hK (hD.2.1.2.2.2.2.2 j hj) rfl 0 (by decide) (hts (.fieldLink RX5 123 "DroopBoard$Feeder" "load" "I") (List.mem_of_getElem? (i := 3) rfl)) rfl dX5_tellOfFeeder_37 ?_
    exact W.iret hx hb hr (fun t ht hW => ⟨⟨R (38 + 3 * j), s.heap, rfl, ⟨rfl, by simp [tfee, e1]⟩, ht⟩, hS.F ht⟩) hS.2.2 dX5_tellOfFeeder_40
  by_cases e2 : q = 1
  · refine lv_lookup (off := 40) (tgt := 41) hx hb dX5_tellOfFeeder_1 (by decide) (by rw [e2]; decide) (by decide) ?_
    refine lv_aload_n hx hb dX5_tellOfFeeder_41 rfl (lv_at hl 0 rfl) ?_
    refine dp_get hx hb hts (dp_hin 10 rfl) hown hK hD.1 rfl 0 (by decide) (hts (.fieldLink RX5 10 "DroopBoard" "board" "LDroopBoard$Board;") (List.mem_of_getElem? (i := 1) rfl)) rfl dX5_tellOfFeeder_42 ?_
    refine dp_get hx hb hts (dp_hin 16 rfl) hown hK hD.2.1.1 rfl 1 (by decide) (hts (.fieldLink RX5 119 "DroopBoard$Board" "feeders" "[LDroopBoard$Feeder;") (List.mem_of_getElem? (i := 2) rfl)) rfl dX5_tellOfFeeder_45 ?_
    refine lv_iload_n hx hb dX5_tellOfFeeder_48 rfl (lv_at hl 1 rfl) ?_
    refine dp_aald hx hb hK hD.2.1.2.2.1 2 rfl j rfl hj (by decide) rfl dX5_tellOfFeeder_49 ?_
    refine dp_get hx hb hts (dp_hin 21 rfl) hown hK (hD.2.1.2.2.2.2.2 j hj) rfl 1 (by decide) (hts (.fieldLink RX5 128 "DroopBoard$Feeder" "on" "Z") (List.mem_of_getElem? (i := 4) rfl)) rfl dX5_tellOfFeeder_50 ?_
    refine dp_Si hF hK hN (c_X5_oneIf l D G (R (39 + 3 * j)) _) (va_cwS 1 hts gX5_tellOfFeeder_X5_oneIf rfl rfl rfl (by decide +kernel) ⟨Nat.le_of_ble_eq_true rfl, Nat.le_of_ble_eq_true rfl⟩) hS nA_i [] rfl rfl hl.1 (Nat.le_of_ble_eq_true rfl) dX5_tellOfFeeder_53 ⟨Nat.le_of_ble_eq_true rfl, Nat.le_of_ble_eq_true rfl⟩ (fun rH1 H1 locs hp hzH1 hkH1 hS => ?_)
    obtain ⟨rfl, rfl⟩ := hp
    exact W.iret hx hb hr (fun t ht hW => ⟨⟨(if R (39 + 3 * j) = 0 then 0 else 1), s.heap, rfl, ⟨rfl, by simp [tfee, e1, e2]⟩, ht⟩, hS.F ht⟩) hS.2.2 dX5_tellOfFeeder_56
  refine lv_lookup (off := 56) (tgt := 57) hx hb dX5_tellOfFeeder_1 (by decide) (by rw [lv_osw e1 (by decide), lv_osw e2 (by decide)]; rfl) (by decide) ?_
  refine lv_aload_n hx hb dX5_tellOfFeeder_57 rfl (lv_at hl 0 rfl) ?_
  refine dp_get hx hb hts (dp_hin 10 rfl) hown hK hD.1 rfl 0 (by decide) (hts (.fieldLink RX5 10 "DroopBoard" "board" "LDroopBoard$Board;") (List.mem_of_getElem? (i := 1) rfl)) rfl dX5_tellOfFeeder_58 ?_
  refine dp_get hx hb hts (dp_hin 16 rfl) hown hK hD.2.1.1 rfl 1 (by decide) (hts (.fieldLink RX5 119 "DroopBoard$Board" "feeders" "[LDroopBoard$Feeder;") (List.mem_of_getElem? (i := 2) rfl)) rfl dX5_tellOfFeeder_61 ?_
  refine lv_iload_n hx hb dX5_tellOfFeeder_64 rfl (lv_at hl 1 rfl) ?_
  refine dp_aald hx hb hK hD.2.1.2.2.1 2 rfl j rfl hj (by decide) rfl dX5_tellOfFeeder_65 ?_
  refine dp_get hx hb hts (dp_hin 21 rfl) hown hK (hD.2.1.2.2.2.2.2 j hj) rfl 2 (by decide) (hts (.fieldLink RX5 312 "DroopBoard$Feeder" "sheds" "I") (List.mem_of_getElem? (i := 5) rfl)) rfl dX5_tellOfFeeder_66 ?_
  exact W.iret hx hb hr (fun t ht hW => ⟨⟨R (40 + 3 * j), s.heap, rfl, ⟨rfl, by simp [tfee, e1, e2]⟩, ht⟩, hS.F ht⟩) hS.2.2 dX5_tellOfFeeder_69

set_option maxHeartbeats 600000 in
set_option maxRecDepth 100000 in
theorem c_X5_tellOfSet (l : Launch) (D : va_G) (G : Nat → ClassId) (α : Nat → Nat) (w : Nat → Nat) (R RT RS : Nat → Int32) (kp : Int32) (sv : Nat → Nat → Int32) (n : Nat) (F : Nat → Int32) (len : Nat) (j : Nat) (q : Int32) (H : Heap) (hα : inj 115 α) (hw : pm w) (hD : DP D G α w R RT RS kp sv n F len H) (hbz : bz R) (hm : mono R) (hn6 : n ≤ 6) (hl6 : len ≤ 60) (hj : j < 3) : Met l yX5_tellOfSet wsX5_tellOfSet ({ frames := 4, cells := 0, slots := 0, locals := 91 } : Room) (va_Pc [.ref (α 0), .int (nI j), .int q] (CX D G H)) (QI nA (fun r h => H = h ∧ tset R j q = r)) 0 0 (nA) := by
  refine Met.ofW (cc := cX5_tellOfSet) (maxL := 4) (ret := (some .int)) (by decide) rfl ?_
  intro p e s m args below meth c s₁ B0 hml hv
  obtain ⟨rfl, rfl, hK, hN⟩ := hv
  have hx := B0.exec
  have hb := B0.bytes
  have hr := B0.returns
  have hts := atoms_spec (ws := wsX5_tellOfSet) B0.pre
  have hown : s.vm.findClass RX5 = some m.cls := findClass_of_methodNamed B0.named
  have hlocks := B0.notSynchronized
  have hF : CallFix p m c cX5_tellOfSet 4 s ([.ref (α 0), .int (nI j), .int q] : List Value).toArray wsX5_tellOfSet RX5 := ⟨hx, hb, hml, hown, hts⟩
  have hS : va_S (nA) s.heap s.heap [] := va_S.rf
  have hl := lv_entry ([.ref (α 0), .int (nI j), .int q]) (n := 4) (Nat.le_of_ble_eq_true rfl)
  rw [lg_entry_eq]
  generalize (lg_sl ([.ref (α 0), .int (nI j), .int q]) ++ List.replicate (4 - (lg_sl ([.ref (α 0), .int (nI j), .int q])).length) Slot.unset).toArray = ls at hl ⊢
  have hl : lv_has ls 4 [(0, .ref (α 0)), (1, .int (nI j)), (2, .int q)] := hl
  refine lv_aload_n hx hb dX5_tellOfSet_0 rfl (lv_at hl 0 rfl) ?_
  refine dp_get hx hb hts (dp_hin 80 rfl) hown hK hD.1 rfl 0 (by decide) (hts (.fieldLink RX5 10 "DroopBoard" "board" "LDroopBoard$Board;") (List.mem_of_getElem? (i := 1) rfl)) rfl dX5_tellOfSet_1 ?_
  refine dp_get hx hb hts (dp_hin 86 rfl) hown hK hD.2.1.1 rfl 0 (by decide) (hts (.fieldLink RX5 44 "DroopBoard$Board" "diesels" "[LDroopBoard$Diesel;") (List.mem_of_getElem? (i := 2) rfl)) rfl dX5_tellOfSet_4 ?_
  refine lv_iload_n hx hb dX5_tellOfSet_7 rfl (lv_at hl 1 rfl) ?_
  refine dp_aald hx hb hK hD.2.1.2.1 1 rfl j rfl hj (by decide) rfl dX5_tellOfSet_8 ?_
  refine lv_astore_n (lv' := [(3, .ref ((aB α 0) (4 + j))), (0, .ref (α 0)), (1, .int (nI j)), (2, .int q)]) hx hb dX5_tellOfSet_9 rfl hl (by decide) rfl (fun ls hl => ?_)
  refine lv_iload_n hx hb dX5_tellOfSet_10 rfl (lv_at hl 3 rfl) ?_
  by_cases e1 : q = 0
  · refine lv_tableIn (off := 61) (tgt := 72) hx hb dX5_tellOfSet_11 (by rw [e1]; decide) (by rw [e1]; decide) (by rw [e1]; rfl) (by decide) ?_
    refine lv_aload_n hx hb dX5_tellOfSet_72 rfl (lv_at hl 0 rfl) ?_
    refine dp_get hx hb hts (dp_hin 91 rfl) hown hK (hD.2.1.2.2.2.2.1 j hj) rfl 0 (by decide) (hts (.fieldLink RX5 65 "DroopBoard$Diesel" "rating" "I") (List.mem_of_getElem? (i := 3) rfl)) rfl dX5_tellOfSet_73 ?_
    exact W.iret hx hb hr (fun t ht hW => ⟨⟨R (8 + 10 * j), s.heap, rfl, ⟨rfl, by simp [tset, e1]⟩, ht⟩, hS.F ht⟩) hS.2.2 dX5_tellOfSet_76
  by_cases e2 : q = 1
  · refine lv_tableIn (off := 66) (tgt := 77) hx hb dX5_tellOfSet_11 (by rw [e2]; decide) (by rw [e2]; decide) (by rw [e2]; rfl) (by decide) ?_
    refine lv_aload_n hx hb dX5_tellOfSet_77 rfl (lv_at hl 0 rfl) ?_
    refine dp_get hx hb hts (dp_hin 91 rfl) hown hK (hD.2.1.2.2.2.2.1 j hj) rfl 1 (by decide) (hts (.fieldLink RX5 69 "DroopBoard$Diesel" "droop" "I") (List.mem_of_getElem? (i := 4) rfl)) rfl dX5_tellOfSet_78 ?_
    exact W.iret hx hb hr (fun t ht hW => ⟨⟨R (9 + 10 * j), s.heap, rfl, ⟨rfl, by simp [tset, e2]⟩, ht⟩, hS.F ht⟩) hS.2.2 dX5_tellOfSet_81
  by_cases e3 : q = 2
  · refine lv_tableIn (off := 71) (tgt := 82) hx hb dX5_tellOfSet_11 (by rw [e3]; decide) (by rw [e3]; decide) (by rw [e3]; rfl) (by decide) ?_
    refine lv_aload_n hx hb dX5_tellOfSet_82 rfl (lv_at hl 0 rfl) ?_
    refine dp_get hx hb hts (dp_hin 91 rfl) hown hK (hD.2.1.2.2.2.2.1 j hj) rfl 2 (by decide) (hts (.fieldLink RX5 72 "DroopBoard$Diesel" "speed" "I") (List.mem_of_getElem? (i := 5) rfl)) rfl dX5_tellOfSet_83 ?_
    exact W.iret hx hb hr (fun t ht hW => ⟨⟨R (10 + 10 * j), s.heap, rfl, ⟨rfl, by simp [tset, e3]⟩, ht⟩, hS.F ht⟩) hS.2.2 dX5_tellOfSet_86
  by_cases e4 : q = 3
  · refine lv_tableIn (off := 76) (tgt := 87) hx hb dX5_tellOfSet_11 (by rw [e4]; decide) (by rw [e4]; decide) (by rw [e4]; rfl) (by decide) ?_
    refine lv_aload_n hx hb dX5_tellOfSet_87 rfl (lv_at hl 0 rfl) ?_
    refine dp_get hx hb hts (dp_hin 91 rfl) hown hK (hD.2.1.2.2.2.2.1 j hj) rfl 3 (by decide) (hts (.fieldLink RX5 48 "DroopBoard$Diesel" "runs" "Z") (List.mem_of_getElem? (i := 6) rfl)) rfl dX5_tellOfSet_88 ?_
    refine dp_Si hF hK hN (c_X5_oneIf l D G (R (11 + 10 * j)) _) (va_cwS 1 hts gX5_tellOfSet_X5_oneIf rfl rfl rfl (by decide +kernel) ⟨Nat.le_of_ble_eq_true rfl, Nat.le_of_ble_eq_true rfl⟩) hS nA_i [] rfl rfl hl.1 (Nat.le_of_ble_eq_true rfl) dX5_tellOfSet_91 ⟨Nat.le_of_ble_eq_true rfl, Nat.le_of_ble_eq_true rfl⟩ (fun rH1 H1 locs hp hzH1 hkH1 hS => ?_)
    obtain ⟨rfl, rfl⟩ := hp
    exact W.iret hx hb hr (fun t ht hW => ⟨⟨(if R (11 + 10 * j) = 0 then 0 else 1), s.heap, rfl, ⟨rfl, by simp [tset, e4]⟩, ht⟩, hS.F ht⟩) hS.2.2 dX5_tellOfSet_94
  by_cases e5 : q = 4
  · refine lv_tableIn (off := 84) (tgt := 95) hx hb dX5_tellOfSet_11 (by rw [e5]; decide) (by rw [e5]; decide) (by rw [e5]; rfl) (by decide) ?_
    refine lv_aload_n hx hb dX5_tellOfSet_95 rfl (lv_at hl 0 rfl) ?_
    refine dp_get hx hb hts (dp_hin 91 rfl) hown hK (hD.2.1.2.2.2.2.1 j hj) rfl 4 (by decide) (hts (.fieldLink RX5 108 "DroopBoard$Diesel" "closed" "Z") (List.mem_of_getElem? (i := 7) rfl)) rfl dX5_tellOfSet_96 ?_
    refine dp_Si hF hK hN (c_X5_oneIf l D G (R (12 + 10 * j)) _) (va_cwS 1 hts gX5_tellOfSet_X5_oneIf rfl rfl rfl (by decide +kernel) ⟨Nat.le_of_ble_eq_true rfl, Nat.le_of_ble_eq_true rfl⟩) hS nA_i [] rfl rfl hl.1 (Nat.le_of_ble_eq_true rfl) dX5_tellOfSet_99 ⟨Nat.le_of_ble_eq_true rfl, Nat.le_of_ble_eq_true rfl⟩ (fun rH2 H2 locs hp hzH2 hkH2 hS => ?_)
    obtain ⟨rfl, rfl⟩ := hp
    exact W.iret hx hb hr (fun t ht hW => ⟨⟨(if R (12 + 10 * j) = 0 then 0 else 1), s.heap, rfl, ⟨rfl, by simp [tset, e5]⟩, ht⟩, hS.F ht⟩) hS.2.2 dX5_tellOfSet_102
  by_cases e6 : q = 5
  · refine lv_tableIn (off := 92) (tgt := 103) hx hb dX5_tellOfSet_11 (by rw [e6]; decide) (by rw [e6]; decide) (by rw [e6]; rfl) (by decide) ?_
    refine lv_aload_n hx hb dX5_tellOfSet_103 rfl (lv_at hl 1 rfl) ?_
    refine dp_get hx hb hts (dp_hin 80 rfl) hown hK hD.1 rfl 0 (by decide) (hts (.fieldLink RX5 10 "DroopBoard" "board" "LDroopBoard$Board;") (List.mem_of_getElem? (i := 1) rfl)) rfl dX5_tellOfSet_104 ?_
    refine lv_iload_n hx hb dX5_tellOfSet_107 rfl (lv_at hl 2 rfl) ?_
    refine lv_aload_n hx hb dX5_tellOfSet_108 rfl (lv_at hl 1 rfl) ?_
    refine dp_get hx hb hts (dp_hin 80 rfl) hown hK hD.1 rfl 0 (by decide) (hts (.fieldLink RX5 10 "DroopBoard" "board" "LDroopBoard$Board;") (List.mem_of_getElem? (i := 1) rfl)) rfl dX5_tellOfSet_109 ?_
    refine dp_Vi hF hK hN (c_X0_frequency l D G (aB α 0) R  _ hD.2.1 hm) (cwV 0 hts gX5_tellOfSet_X0_frequency rfl rfl rfl (by decide +kernel) ⟨Nat.le_of_ble_eq_true rfl, Nat.le_of_ble_eq_true rfl⟩) (dp_recv hK hD.2.1.1 rfl) hS nA_i [.int (nI j), .ref ((aB α 0) 0)] rfl rfl hl.1 (Nat.le_of_ble_eq_true rfl) dX5_tellOfSet_112 ⟨Nat.le_of_ble_eq_true rfl, Nat.le_of_ble_eq_true rfl⟩ (fun rH3 H3 locs hp hzH3 hkH3 hS => ?_)
    obtain ⟨rfl, rfl⟩ := hp
    refine dp_Vi hF hK hN (c_X0_power l D G (aB α 0) R j (fq R) _ hD.2.1 hj) (cwV 2 hts gX5_tellOfSet_X0_power rfl rfl rfl (by decide +kernel) ⟨Nat.le_of_ble_eq_true rfl, Nat.le_of_ble_eq_true rfl⟩) (dp_recv hK hD.2.1.1 rfl) hS nA_i [] rfl rfl hl.1 (Nat.le_of_ble_eq_true rfl) dX5_tellOfSet_115 ⟨Nat.le_of_ble_eq_true rfl, Nat.le_of_ble_eq_true rfl⟩ (fun rH4 H4 locs hp hzH4 hkH4 hS => ?_)
    obtain ⟨rfl, rfl⟩ := hp
    exact W.iret hx hb hr (fun t ht hW => ⟨⟨pw R j (fq R), s.heap, rfl, ⟨rfl, by simp [tset, e6]⟩, ht⟩, hS.F ht⟩) hS.2.2 dX5_tellOfSet_118
  by_cases e7 : q = 6
  · refine lv_tableIn (off := 108) (tgt := 119) hx hb dX5_tellOfSet_11 (by rw [e7]; decide) (by rw [e7]; decide) (by rw [e7]; rfl) (by decide) ?_
    refine lv_aload_n hx hb dX5_tellOfSet_119 rfl (lv_at hl 0 rfl) ?_
    refine dp_get hx hb hts (dp_hin 91 rfl) hown hK (hD.2.1.2.2.2.2.1 j hj) rfl 5 (by decide) (hts (.fieldLink RX5 296 "DroopBoard$Diesel" "phase" "I") (List.mem_of_getElem? (i := 8) rfl)) rfl dX5_tellOfSet_120 ?_
    exact W.iret hx hb hr (fun t ht hW => ⟨⟨R (13 + 10 * j), s.heap, rfl, ⟨rfl, by simp [tset, e7]⟩, ht⟩, hS.F ht⟩) hS.2.2 dX5_tellOfSet_123
  by_cases e8 : q = 7
  · refine lv_tableIn (off := 113) (tgt := 124) hx hb dX5_tellOfSet_11 (by rw [e8]; decide) (by rw [e8]; decide) (by rw [e8]; rfl) (by decide) ?_
    refine lv_aload_n hx hb dX5_tellOfSet_124 rfl (lv_at hl 0 rfl) ?_
    refine dp_Vi hF hK hN (c_X1_lamps l D G (aB α 0 (4 + j)) j R _ (hD.2.1.2.2.2.2.1 j hj)) (cwV 0 hts gX5_tellOfSet_X1_lamps rfl rfl rfl (by decide +kernel) ⟨Nat.le_of_ble_eq_true rfl, Nat.le_of_ble_eq_true rfl⟩) (dp_recv hK (hD.2.1.2.2.2.2.1 j hj) rfl) hS nA_i [] rfl rfl hl.1 (Nat.le_of_ble_eq_true rfl) dX5_tellOfSet_125 ⟨Nat.le_of_ble_eq_true rfl, Nat.le_of_ble_eq_true rfl⟩ (fun rH5 H5 locs hp hzH5 hkH5 hS => ?_)
    obtain ⟨rfl, rfl⟩ := hp
    exact W.iret hx hb hr (fun t ht hW => ⟨⟨lam (R (13 + 10 * j)), s.heap, rfl, ⟨rfl, by simp [tset, e8]⟩, ht⟩, hS.F ht⟩) hS.2.2 dX5_tellOfSet_128
  by_cases e9 : q = 8
  · refine lv_tableIn (off := 118) (tgt := 129) hx hb dX5_tellOfSet_11 (by rw [e9]; decide) (by rw [e9]; decide) (by rw [e9]; rfl) (by decide) ?_
    refine lv_aload_n hx hb dX5_tellOfSet_129 rfl (lv_at hl 0 rfl) ?_
    refine dp_get hx hb hts (dp_hin 91 rfl) hown hK (hD.2.1.2.2.2.2.1 j hj) rfl 6 (by decide) (hts (.fieldLink RX5 302 "DroopBoard$Diesel" "overloaded" "I") (List.mem_of_getElem? (i := 9) rfl)) rfl dX5_tellOfSet_130 ?_
    exact W.iret hx hb hr (fun t ht hW => ⟨⟨R (14 + 10 * j), s.heap, rfl, ⟨rfl, by simp [tset, e9]⟩, ht⟩, hS.F ht⟩) hS.2.2 dX5_tellOfSet_133
  by_cases e10 : q = 9
  · refine lv_tableIn (off := 123) (tgt := 134) hx hb dX5_tellOfSet_11 (by rw [e10]; decide) (by rw [e10]; decide) (by rw [e10]; rfl) (by decide) ?_
    refine lv_aload_n hx hb dX5_tellOfSet_134 rfl (lv_at hl 0 rfl) ?_
    refine dp_get hx hb hts (dp_hin 91 rfl) hown hK (hD.2.1.2.2.2.2.1 j hj) rfl 7 (by decide) (hts (.fieldLink RX5 305 "DroopBoard$Diesel" "driven" "I") (List.mem_of_getElem? (i := 10) rfl)) rfl dX5_tellOfSet_135 ?_
    exact W.iret hx hb hr (fun t ht hW => ⟨⟨R (15 + 10 * j), s.heap, rfl, ⟨rfl, by simp [tset, e10]⟩, ht⟩, hS.F ht⟩) hS.2.2 dX5_tellOfSet_138
  by_cases e11 : q = 10
  · refine lv_tableIn (off := 128) (tgt := 139) hx hb dX5_tellOfSet_11 (by rw [e11]; decide) (by rw [e11]; decide) (by rw [e11]; rfl) (by decide) ?_
    refine lv_aload_n hx hb dX5_tellOfSet_139 rfl (lv_at hl 0 rfl) ?_
    refine dp_get hx hb hts (dp_hin 91 rfl) hown hK (hD.2.1.2.2.2.2.1 j hj) rfl 8 (by decide) (hts (.fieldLink RX5 308 "DroopBoard$Diesel" "energy" "I") (List.mem_of_getElem? (i := 11) rfl)) rfl dX5_tellOfSet_140 ?_
    exact W.iret hx hb hr (fun t ht hW => ⟨⟨R (16 + 10 * j), s.heap, rfl, ⟨rfl, by simp [tset, e11]⟩, ht⟩, hS.F ht⟩) hS.2.2 dX5_tellOfSet_143
  by_cases e12 : q = 11
  · refine lv_tableIn (off := 133) (tgt := 144) hx hb dX5_tellOfSet_11 (by rw [e12]; decide) (by rw [e12]; decide) (by rw [e12]; rfl) (by decide) ?_
    refine lv_aload_n hx hb dX5_tellOfSet_144 rfl (lv_at hl 0 rfl) ?_
    refine dp_get hx hb hts (dp_hin 91 rfl) hown hK (hD.2.1.2.2.2.2.1 j hj) rfl 9 (by decide) (hts (.fieldLink RX5 309 "DroopBoard$Diesel" "trips" "I") (List.mem_of_getElem? (i := 12) rfl)) rfl dX5_tellOfSet_145 ?_
    exact W.iret hx hb hr (fun t ht hW => ⟨⟨R (17 + 10 * j), s.heap, rfl, ⟨rfl, by simp [tset, e12]⟩, ht⟩, hS.F ht⟩) hS.2.2 dX5_tellOfSet_148
  have e1I := lv_neT (a := 0) e1 (by decide)
  have e2I := lv_neT (a := 1) e2 (by decide)
  have e3I := lv_neT (a := 2) e3 (by decide)
  have e4I := lv_neT (a := 3) e4 (by decide)
  have e5I := lv_neT (a := 4) e5 (by decide)
  have e6I := lv_neT (a := 5) e6 (by decide)
  have e7I := lv_neT (a := 6) e7 (by decide)
  have e8I := lv_neT (a := 7) e8 (by decide)
  have e9I := lv_neT (a := 8) e9 (by decide)
  have e10I := lv_neT (a := 9) e10 (by decide)
  have e11I := lv_neT (a := 10) e11 (by decide)
  have e12I := lv_neT (a := 11) e12 (by decide)
  refine lv_tableOut (tgt := 149) hx hb dX5_tellOfSet_11 (by omega) (by decide) ?_
  refine lv_aload_n hx hb dX5_tellOfSet_149 rfl (lv_at hl 1 rfl) ?_
  refine dp_get hx hb hts (dp_hin 80 rfl) hown hK hD.1 rfl 0 (by decide) (hts (.fieldLink RX5 10 "DroopBoard" "board" "LDroopBoard$Board;") (List.mem_of_getElem? (i := 1) rfl)) rfl dX5_tellOfSet_150 ?_
  refine lv_iload_n hx hb dX5_tellOfSet_153 rfl (lv_at hl 2 rfl) ?_
  refine dp_Vi hF hK hN (c_X0_whyNotClosed l D G (aB α 0) R j _ hD.2.1 hj hm) (cwV 1 hts gX5_tellOfSet_X0_whyNotClosed rfl rfl rfl (by decide +kernel) ⟨Nat.le_of_ble_eq_true rfl, Nat.le_of_ble_eq_true rfl⟩) (dp_recv hK hD.2.1.1 rfl) hS nA_i [] rfl rfl hl.1 (Nat.le_of_ble_eq_true rfl) dX5_tellOfSet_154 ⟨Nat.le_of_ble_eq_true rfl, Nat.le_of_ble_eq_true rfl⟩ (fun rH6 H6 locs hp hzH6 hkH6 hS => ?_)
  obtain ⟨rfl, rfl⟩ := hp
  exact W.iret hx hb hr (fun t ht hW => ⟨⟨rsn R j, s.heap, rfl, ⟨rfl, by simp [tset, e1, e2, e3, e4, e5, e6, e7, e8, e9, e10, e11, e12]⟩, ht⟩, hS.F ht⟩) hS.2.2 dX5_tellOfSet_157

set_option maxHeartbeats 600000 in
set_option maxRecDepth 100000 in
theorem c_X5_tellCount (l : Launch) (D : va_G) (G : Nat → ClassId) (α : Nat → Nat) (w : Nat → Nat) (R RT RS : Nat → Int32) (kp : Int32) (sv : Nat → Nat → Int32) (n : Nat) (F : Nat → Int32) (len : Nat) (q : Int32) (H : Heap) (hα : inj 115 α) (hw : pm w) (hD : DP D G α w R RT RS kp sv n F len H) (hbz : bz R) (hm : mono R) (hn6 : n ≤ 6) (hl6 : len ≤ 60) : Met l yX5_tellCount wsX5_tellCount ({ frames := 4, cells := 0, slots := 0, locals := 90 } : Room) (va_Pc [.ref (α 0), .int q] (CX D G H)) (QI nA (fun r h => H = h ∧ tcnt R n q = r)) 0 0 (nA) := by
  refine Met.ofW (cc := cX5_tellCount) (maxL := 2) (ret := (some .int)) (by decide) rfl ?_
  intro p e s m args below meth c s₁ B0 hml hv
  obtain ⟨rfl, rfl, hK, hN⟩ := hv
  have hx := B0.exec
  have hb := B0.bytes
  have hr := B0.returns
  have hts := atoms_spec (ws := wsX5_tellCount) B0.pre
  have hown : s.vm.findClass RX5 = some m.cls := findClass_of_methodNamed B0.named
  have hlocks := B0.notSynchronized
  have hF : CallFix p m c cX5_tellCount 2 s ([.ref (α 0), .int q] : List Value).toArray wsX5_tellCount RX5 := ⟨hx, hb, hml, hown, hts⟩
  have hS : va_S (nA) s.heap s.heap [] := va_S.rf
  have hl := lv_entry ([.ref (α 0), .int q]) (n := 2) (Nat.le_of_ble_eq_true rfl)
  rw [lg_entry_eq]
  generalize (lg_sl ([.ref (α 0), .int q]) ++ List.replicate (2 - (lg_sl ([.ref (α 0), .int q])).length) Slot.unset).toArray = ls at hl ⊢
  have hl : lv_has ls 2 [(0, .ref (α 0)), (1, .int q)] := hl
  refine lv_iload_n hx hb dX5_tellCount_0 rfl (lv_at hl 1 rfl) ?_
  by_cases e1 : q = 0
  · refine lv_tableIn (off := 59) (tgt := 60) hx hb dX5_tellCount_1 (by rw [e1]; decide) (by rw [e1]; decide) (by rw [e1]; rfl) (by decide) ?_
    refine lv_aload_n hx hb dX5_tellCount_60 rfl (lv_at hl 0 rfl) ?_
    refine dp_get hx hb hts (dp_hin 84 rfl) hown hK hD.1 rfl 0 (by decide) (hts (.fieldLink RX5 10 "DroopBoard" "board" "LDroopBoard$Board;") (List.mem_of_getElem? (i := 1) rfl)) rfl dX5_tellCount_61 ?_
    refine dp_get hx hb hts (dp_hin 90 rfl) hown hK hD.2.1.1 rfl 3 (by decide) (hts (.fieldLink RX5 186 "DroopBoard$Board" "ticks" "I") (List.mem_of_getElem? (i := 2) rfl)) rfl dX5_tellCount_64 ?_
    exact W.iret hx hb hr (fun t ht hW => ⟨⟨R 4, s.heap, rfl, ⟨rfl, by simp [tcnt, e1]⟩, ht⟩, hS.F ht⟩) hS.2.2 dX5_tellCount_67
  by_cases e2 : q = 1
  · refine lv_tableIn (off := 67) (tgt := 68) hx hb dX5_tellCount_1 (by rw [e2]; decide) (by rw [e2]; decide) (by rw [e2]; rfl) (by decide) ?_
    refine lv_aload_n hx hb dX5_tellCount_68 rfl (lv_at hl 0 rfl) ?_
    refine dp_get hx hb hts (dp_hin 84 rfl) hown hK hD.1 rfl 0 (by decide) (hts (.fieldLink RX5 10 "DroopBoard" "board" "LDroopBoard$Board;") (List.mem_of_getElem? (i := 1) rfl)) rfl dX5_tellCount_69 ?_
    refine dp_Vi hF hK hN (c_X0_frequencyDownwards l D G (aB α 0) R  _ hD.2.1 ) (cwV 0 hts gX5_tellCount_X0_frequencyDownwards rfl rfl rfl (by decide +kernel) ⟨Nat.le_of_ble_eq_true rfl, Nat.le_of_ble_eq_true rfl⟩) (dp_recv hK hD.2.1.1 rfl) hS nA_i [] rfl rfl hl.1 (Nat.le_of_ble_eq_true rfl) dX5_tellCount_72 ⟨Nat.le_of_ble_eq_true rfl, Nat.le_of_ble_eq_true rfl⟩ (fun rH1 H1 locs hp hzH1 hkH1 hS => ?_)
    obtain ⟨rfl, rfl⟩ := hp
    exact W.iret hx hb hr (fun t ht hW => ⟨⟨fq R, s.heap, rfl, ⟨rfl, by simp [tcnt, e2]⟩, ht⟩, hS.F ht⟩) hS.2.2 dX5_tellCount_75
  by_cases e3 : q = 2
  · refine lv_tableIn (off := 75) (tgt := 76) hx hb dX5_tellCount_1 (by rw [e3]; decide) (by rw [e3]; decide) (by rw [e3]; rfl) (by decide) ?_
    refine lv_aload_n hx hb dX5_tellCount_76 rfl (lv_at hl 0 rfl) ?_
    refine dp_get hx hb hts (dp_hin 84 rfl) hown hK hD.1 rfl 0 (by decide) (hts (.fieldLink RX5 10 "DroopBoard" "board" "LDroopBoard$Board;") (List.mem_of_getElem? (i := 1) rfl)) rfl dX5_tellCount_77 ?_
    refine dp_Vi hF hK hN (c_X0_frequency l D G (aB α 0) R  _ hD.2.1 hm) (cwV 0 hts gX5_tellCount_X0_frequency rfl rfl rfl (by decide +kernel) ⟨Nat.le_of_ble_eq_true rfl, Nat.le_of_ble_eq_true rfl⟩) (dp_recv hK hD.2.1.1 rfl) hS nA_i [] rfl rfl hl.1 (Nat.le_of_ble_eq_true rfl) dX5_tellCount_80 ⟨Nat.le_of_ble_eq_true rfl, Nat.le_of_ble_eq_true rfl⟩ (fun rH2 H2 locs hp hzH2 hkH2 hS => ?_)
    obtain ⟨rfl, rfl⟩ := hp
    exact W.iret hx hb hr (fun t ht hW => ⟨⟨fq R, s.heap, rfl, ⟨rfl, by simp [tcnt, e3]⟩, ht⟩, hS.F ht⟩) hS.2.2 dX5_tellCount_83
  by_cases e4 : q = 3
  · refine lv_tableIn (off := 83) (tgt := 84) hx hb dX5_tellCount_1 (by rw [e4]; decide) (by rw [e4]; decide) (by rw [e4]; rfl) (by decide) ?_
    refine lv_aload_n hx hb dX5_tellCount_84 rfl (lv_at hl 0 rfl) ?_
    refine dp_get hx hb hts (dp_hin 84 rfl) hown hK hD.1 rfl 0 (by decide) (hts (.fieldLink RX5 10 "DroopBoard" "board" "LDroopBoard$Board;") (List.mem_of_getElem? (i := 1) rfl)) rfl dX5_tellCount_85 ?_
    refine dp_Vi hF hK hN (c_X0_demand l D G (aB α 0) R  _ hD.2.1 ) (cwV 0 hts gX5_tellCount_X0_demand rfl rfl rfl (by decide +kernel) ⟨Nat.le_of_ble_eq_true rfl, Nat.le_of_ble_eq_true rfl⟩) (dp_recv hK hD.2.1.1 rfl) hS nA_i [] rfl rfl hl.1 (Nat.le_of_ble_eq_true rfl) dX5_tellCount_88 ⟨Nat.le_of_ble_eq_true rfl, Nat.le_of_ble_eq_true rfl⟩ (fun rH3 H3 locs hp hzH3 hkH3 hS => ?_)
    obtain ⟨rfl, rfl⟩ := hp
    exact W.iret hx hb hr (fun t ht hW => ⟨⟨ld R, s.heap, rfl, ⟨rfl, by simp [tcnt, e4]⟩, ht⟩, hS.F ht⟩) hS.2.2 dX5_tellCount_91
  by_cases e5 : q = 4
  · refine lv_tableIn (off := 91) (tgt := 92) hx hb dX5_tellCount_1 (by rw [e5]; decide) (by rw [e5]; decide) (by rw [e5]; rfl) (by decide) ?_
    refine lv_aload_n hx hb dX5_tellCount_92 rfl (lv_at hl 0 rfl) ?_
    refine dp_get hx hb hts (dp_hin 84 rfl) hown hK hD.1 rfl 0 (by decide) (hts (.fieldLink RX5 10 "DroopBoard" "board" "LDroopBoard$Board;") (List.mem_of_getElem? (i := 1) rfl)) rfl dX5_tellCount_93 ?_
    refine lv_aload_n hx hb dX5_tellCount_96 rfl (lv_at hl 0 rfl) ?_
    refine dp_get hx hb hts (dp_hin 84 rfl) hown hK hD.1 rfl 0 (by decide) (hts (.fieldLink RX5 10 "DroopBoard" "board" "LDroopBoard$Board;") (List.mem_of_getElem? (i := 1) rfl)) rfl dX5_tellCount_97 ?_
    refine dp_Vi hF hK hN (c_X0_frequency l D G (aB α 0) R  _ hD.2.1 hm) (cwV 0 hts gX5_tellCount_X0_frequency rfl rfl rfl (by decide +kernel) ⟨Nat.le_of_ble_eq_true rfl, Nat.le_of_ble_eq_true rfl⟩) (dp_recv hK hD.2.1.1 rfl) hS nA_i [.ref ((aB α 0) 0)] rfl rfl hl.1 (Nat.le_of_ble_eq_true rfl) dX5_tellCount_100 ⟨Nat.le_of_ble_eq_true rfl, Nat.le_of_ble_eq_true rfl⟩ (fun rH4 H4 locs hp hzH4 hkH4 hS => ?_)
    obtain ⟨rfl, rfl⟩ := hp
    refine dp_Vi hF hK hN (c_X0_powers l D G (aB α 0) R (fq R) _ hD.2.1 ) (cwV 1 hts gX5_tellCount_X0_powers rfl rfl rfl (by decide +kernel) ⟨Nat.le_of_ble_eq_true rfl, Nat.le_of_ble_eq_true rfl⟩) (dp_recv hK hD.2.1.1 rfl) hS nA_i [] rfl rfl hl.1 (Nat.le_of_ble_eq_true rfl) dX5_tellCount_103 ⟨Nat.le_of_ble_eq_true rfl, Nat.le_of_ble_eq_true rfl⟩ (fun rH5 H5 locs hp hzH5 hkH5 hS => ?_)
    obtain ⟨rfl, rfl⟩ := hp
    exact W.iret hx hb hr (fun t ht hW => ⟨⟨psum R (fq R) 3, s.heap, rfl, ⟨rfl, by simp [tcnt, e5]⟩, ht⟩, hS.F ht⟩) hS.2.2 dX5_tellCount_106
  by_cases e6 : q = 5
  · refine lv_tableIn (off := 106) (tgt := 107) hx hb dX5_tellCount_1 (by rw [e6]; decide) (by rw [e6]; decide) (by rw [e6]; rfl) (by decide) ?_
    refine lv_aload_n hx hb dX5_tellCount_107 rfl (lv_at hl 0 rfl) ?_
    refine dp_get hx hb hts (dp_hin 84 rfl) hown hK hD.1 rfl 0 (by decide) (hts (.fieldLink RX5 10 "DroopBoard" "board" "LDroopBoard$Board;") (List.mem_of_getElem? (i := 1) rfl)) rfl dX5_tellCount_108 ?_
    refine lv_aload_n hx hb dX5_tellCount_111 rfl (lv_at hl 0 rfl) ?_
    refine dp_get hx hb hts (dp_hin 84 rfl) hown hK hD.1 rfl 0 (by decide) (hts (.fieldLink RX5 10 "DroopBoard" "board" "LDroopBoard$Board;") (List.mem_of_getElem? (i := 1) rfl)) rfl dX5_tellCount_112 ?_
    refine dp_Vi hF hK hN (c_X0_frequency l D G (aB α 0) R  _ hD.2.1 hm) (cwV 0 hts gX5_tellCount_X0_frequency rfl rfl rfl (by decide +kernel) ⟨Nat.le_of_ble_eq_true rfl, Nat.le_of_ble_eq_true rfl⟩) (dp_recv hK hD.2.1.1 rfl) hS nA_i [.ref ((aB α 0) 0)] rfl rfl hl.1 (Nat.le_of_ble_eq_true rfl) dX5_tellCount_115 ⟨Nat.le_of_ble_eq_true rfl, Nat.le_of_ble_eq_true rfl⟩ (fun rH6 H6 locs hp hzH6 hkH6 hS => ?_)
    obtain ⟨rfl, rfl⟩ := hp
    refine dp_Vi hF hK hN (c_X0_lack l D G (aB α 0) R (fq R) _ hD.2.1 ) (cwV 1 hts gX5_tellCount_X0_lack rfl rfl rfl (by decide +kernel) ⟨Nat.le_of_ble_eq_true rfl, Nat.le_of_ble_eq_true rfl⟩) (dp_recv hK hD.2.1.1 rfl) hS nA_i [] rfl rfl hl.1 (Nat.le_of_ble_eq_true rfl) dX5_tellCount_118 ⟨Nat.le_of_ble_eq_true rfl, Nat.le_of_ble_eq_true rfl⟩ (fun rH7 H7 locs hp hzH7 hkH7 hS => ?_)
    obtain ⟨rfl, rfl⟩ := hp
    exact W.iret hx hb hr (fun t ht hW => ⟨⟨lk R (fq R), s.heap, rfl, ⟨rfl, by simp [tcnt, e6]⟩, ht⟩, hS.F ht⟩) hS.2.2 dX5_tellCount_121
  by_cases e7 : q = 6
  · refine lv_tableIn (off := 121) (tgt := 122) hx hb dX5_tellCount_1 (by rw [e7]; decide) (by rw [e7]; decide) (by rw [e7]; rfl) (by decide) ?_
    refine lv_aload_n hx hb dX5_tellCount_122 rfl (lv_at hl 0 rfl) ?_
    refine dp_get hx hb hts (dp_hin 84 rfl) hown hK hD.1 rfl 0 (by decide) (hts (.fieldLink RX5 10 "DroopBoard" "board" "LDroopBoard$Board;") (List.mem_of_getElem? (i := 1) rfl)) rfl dX5_tellCount_123 ?_
    refine dp_Vi hF hK hN (c_X0_running l D G (aB α 0) R  _ hD.2.1 ) (cwV 0 hts gX5_tellCount_X0_running rfl rfl rfl (by decide +kernel) ⟨Nat.le_of_ble_eq_true rfl, Nat.le_of_ble_eq_true rfl⟩) (dp_recv hK hD.2.1.1 rfl) hS nA_i [] rfl rfl hl.1 (Nat.le_of_ble_eq_true rfl) dX5_tellCount_126 ⟨Nat.le_of_ble_eq_true rfl, Nat.le_of_ble_eq_true rfl⟩ (fun rH8 H8 locs hp hzH8 hkH8 hS => ?_)
    obtain ⟨rfl, rfl⟩ := hp
    exact W.iret hx hb hr (fun t ht hW => ⟨⟨osum R 11 3, s.heap, rfl, ⟨rfl, by simp [tcnt, e7]⟩, ht⟩, hS.F ht⟩) hS.2.2 dX5_tellCount_129
  by_cases e8 : q = 7
  · refine lv_tableIn (off := 129) (tgt := 130) hx hb dX5_tellCount_1 (by rw [e8]; decide) (by rw [e8]; decide) (by rw [e8]; rfl) (by decide) ?_
    refine lv_aload_n hx hb dX5_tellCount_130 rfl (lv_at hl 0 rfl) ?_
    refine dp_get hx hb hts (dp_hin 84 rfl) hown hK hD.1 rfl 0 (by decide) (hts (.fieldLink RX5 10 "DroopBoard" "board" "LDroopBoard$Board;") (List.mem_of_getElem? (i := 1) rfl)) rfl dX5_tellCount_131 ?_
    refine dp_Vi hF hK hN (c_X0_closedBreakers l D G (aB α 0) R  _ hD.2.1 ) (cwV 0 hts gX5_tellCount_X0_closedBreakers rfl rfl rfl (by decide +kernel) ⟨Nat.le_of_ble_eq_true rfl, Nat.le_of_ble_eq_true rfl⟩) (dp_recv hK hD.2.1.1 rfl) hS nA_i [] rfl rfl hl.1 (Nat.le_of_ble_eq_true rfl) dX5_tellCount_134 ⟨Nat.le_of_ble_eq_true rfl, Nat.le_of_ble_eq_true rfl⟩ (fun rH9 H9 locs hp hzH9 hkH9 hS => ?_)
    obtain ⟨rfl, rfl⟩ := hp
    exact W.iret hx hb hr (fun t ht hW => ⟨⟨osum R 12 3, s.heap, rfl, ⟨rfl, by simp [tcnt, e8]⟩, ht⟩, hS.F ht⟩) hS.2.2 dX5_tellCount_137
  by_cases e9 : q = 8
  · refine lv_tableIn (off := 137) (tgt := 138) hx hb dX5_tellCount_1 (by rw [e9]; decide) (by rw [e9]; decide) (by rw [e9]; rfl) (by decide) ?_
    refine lv_aload_n hx hb dX5_tellCount_138 rfl (lv_at hl 0 rfl) ?_
    refine dp_get hx hb hts (dp_hin 84 rfl) hown hK hD.1 rfl 0 (by decide) (hts (.fieldLink RX5 10 "DroopBoard" "board" "LDroopBoard$Board;") (List.mem_of_getElem? (i := 1) rfl)) rfl dX5_tellCount_139 ?_
    refine dp_Vi hF hK hN (c_X0_trips l D G (aB α 0) R  _ hD.2.1 ) (cwV 0 hts gX5_tellCount_X0_trips rfl rfl rfl (by decide +kernel) ⟨Nat.le_of_ble_eq_true rfl, Nat.le_of_ble_eq_true rfl⟩) (dp_recv hK hD.2.1.1 rfl) hS nA_i [] rfl rfl hl.1 (Nat.le_of_ble_eq_true rfl) dX5_tellCount_142 ⟨Nat.le_of_ble_eq_true rfl, Nat.le_of_ble_eq_true rfl⟩ (fun rH10 H10 locs hp hzH10 hkH10 hS => ?_)
    obtain ⟨rfl, rfl⟩ := hp
    exact W.iret hx hb hr (fun t ht hW => ⟨⟨wsum R 17 10 3, s.heap, rfl, ⟨rfl, by simp [tcnt, e9]⟩, ht⟩, hS.F ht⟩) hS.2.2 dX5_tellCount_145
  by_cases e10 : q = 9
  · refine lv_tableIn (off := 145) (tgt := 146) hx hb dX5_tellCount_1 (by rw [e10]; decide) (by rw [e10]; decide) (by rw [e10]; rfl) (by decide) ?_
    refine lv_aload_n hx hb dX5_tellCount_146 rfl (lv_at hl 0 rfl) ?_
    refine dp_get hx hb hts (dp_hin 84 rfl) hown hK hD.1 rfl 0 (by decide) (hts (.fieldLink RX5 10 "DroopBoard" "board" "LDroopBoard$Board;") (List.mem_of_getElem? (i := 1) rfl)) rfl dX5_tellCount_147 ?_
    refine dp_Vi hF hK hN (c_X0_sheds l D G (aB α 0) R  _ hD.2.1 ) (cwV 0 hts gX5_tellCount_X0_sheds rfl rfl rfl (by decide +kernel) ⟨Nat.le_of_ble_eq_true rfl, Nat.le_of_ble_eq_true rfl⟩) (dp_recv hK hD.2.1.1 rfl) hS nA_i [] rfl rfl hl.1 (Nat.le_of_ble_eq_true rfl) dX5_tellCount_150 ⟨Nat.le_of_ble_eq_true rfl, Nat.le_of_ble_eq_true rfl⟩ (fun rH11 H11 locs hp hzH11 hkH11 hS => ?_)
    obtain ⟨rfl, rfl⟩ := hp
    exact W.iret hx hb hr (fun t ht hW => ⟨⟨wsum R 40 3 4, s.heap, rfl, ⟨rfl, by simp [tcnt, e10]⟩, ht⟩, hS.F ht⟩) hS.2.2 dX5_tellCount_153
  by_cases e11 : q = 10
  · refine lv_tableIn (off := 153) (tgt := 154) hx hb dX5_tellCount_1 (by rw [e11]; decide) (by rw [e11]; decide) (by rw [e11]; rfl) (by decide) ?_
    refine lv_aload_n hx hb dX5_tellCount_154 rfl (lv_at hl 0 rfl) ?_
    refine dp_get hx hb hts (dp_hin 84 rfl) hown hK hD.1 rfl 0 (by decide) (hts (.fieldLink RX5 10 "DroopBoard" "board" "LDroopBoard$Board;") (List.mem_of_getElem? (i := 1) rfl)) rfl dX5_tellCount_155 ?_
    refine dp_get hx hb hts (dp_hin 90 rfl) hown hK hD.2.1.1 rfl 4 (by decide) (hts (.fieldLink RX5 228 "DroopBoard$Board" "energy" "I") (List.mem_of_getElem? (i := 3) rfl)) rfl dX5_tellCount_158 ?_
    exact W.iret hx hb hr (fun t ht hW => ⟨⟨R 7, s.heap, rfl, ⟨rfl, by simp [tcnt, e11]⟩, ht⟩, hS.F ht⟩) hS.2.2 dX5_tellCount_161
  have e1I := lv_neT (a := 0) e1 (by decide)
  have e2I := lv_neT (a := 1) e2 (by decide)
  have e3I := lv_neT (a := 2) e3 (by decide)
  have e4I := lv_neT (a := 3) e4 (by decide)
  have e5I := lv_neT (a := 4) e5 (by decide)
  have e6I := lv_neT (a := 5) e6 (by decide)
  have e7I := lv_neT (a := 6) e7 (by decide)
  have e8I := lv_neT (a := 7) e8 (by decide)
  have e9I := lv_neT (a := 8) e9 (by decide)
  have e10I := lv_neT (a := 9) e10 (by decide)
  have e11I := lv_neT (a := 10) e11 (by decide)
  refine lv_tableOut (tgt := 162) hx hb dX5_tellCount_1 (by omega) (by decide) ?_
  refine lv_aload_n hx hb dX5_tellCount_162 rfl (lv_at hl 0 rfl) ?_
  refine dp_get hx hb hts (dp_hin 84 rfl) hown hK hD.1 rfl 4 (by decide) (hts (.fieldLink RX5 25 "DroopBoard" "history" "LDroopBoard$History;") (List.mem_of_getElem? (i := 4) rfl)) rfl dX5_tellCount_163 ?_
  refine dp_get hx hb hts (dp_hin 95 rfl) hown hK hD.2.2.2.2.1.1 rfl 1 (by decide) (hts (.fieldLink RX5 191 "DroopBoard$History" "size" "I") (List.mem_of_getElem? (i := 5) rfl)) rfl dX5_tellCount_166 ?_
  exact W.iret hx hb hr (fun t ht hW => ⟨⟨nI n, s.heap, rfl, ⟨rfl, by simp [tcnt, e1, e2, e3, e4, e5, e6, e7, e8, e9, e10, e11]⟩, ht⟩, hS.F ht⟩) hS.2.2 dX5_tellCount_169

set_option maxHeartbeats 600000 in
set_option maxRecDepth 100000 in
theorem c_X5_tellIfSpeed (l : Launch) (D : va_G) (G : Nat → ClassId) (α : Nat → Nat) (w : Nat → Nat) (R RT RS : Nat → Int32) (kp : Int32) (sv : Nat → Nat → Int32) (n : Nat) (F : Nat → Int32) (len : Nat) (j : Nat) (v q : Int32) (H : Heap) (hα : inj 115 α) (hw : pm w) (hD : DP D G α w R RT RS kp sv n F len H) (hbz : bz R) (hm : mono R) (hn6 : n ≤ 6) (hl6 : len ≤ 60) (hj : j < 3) (hm2 : mono (usp R j v)) : Met l yX5_tellIfSpeed wsX5_tellIfSpeed ({ frames := 3, cells := 0, slots := 0, locals := 69 } : Room) (va_Pc [.ref (α 0), .int (nI j), .int v, .int q] (CX D G H)) (QI (A5 α) (fun r h => tif R j v q = r ∧ DW D G α R RS kp sv n F len h)) 0 0 (A5 α) := by
  refine Met.ofW (cc := cX5_tellIfSpeed) (maxL := 5) (ret := (some .int)) (by decide) rfl ?_
  intro p e s m args below meth c s₁ B0 hml hv
  obtain ⟨rfl, rfl, hK, hN⟩ := hv
  have hx := B0.exec
  have hb := B0.bytes
  have hr := B0.returns
  have hts := atoms_spec (ws := wsX5_tellIfSpeed) B0.pre
  have hown : s.vm.findClass RX5 = some m.cls := findClass_of_methodNamed B0.named
  have hlocks := B0.notSynchronized
  have hF : CallFix p m c cX5_tellIfSpeed 5 s ([.ref (α 0), .int (nI j), .int v, .int q] : List Value).toArray wsX5_tellIfSpeed RX5 := ⟨hx, hb, hml, hown, hts⟩
  have hS : va_S (A5 α) s.heap s.heap [] := va_S.rf
  have hl := lv_entry ([.ref (α 0), .int (nI j), .int v, .int q]) (n := 5) (Nat.le_of_ble_eq_true rfl)
  rw [lg_entry_eq]
  generalize (lg_sl ([.ref (α 0), .int (nI j), .int v, .int q]) ++ List.replicate (5 - (lg_sl ([.ref (α 0), .int (nI j), .int v, .int q])).length) Slot.unset).toArray = ls at hl ⊢
  have hl : lv_has ls 5 [(0, .ref (α 0)), (1, .int (nI j)), (2, .int v), (3, .int q)] := hl
  refine lv_aload_n hx hb dX5_tellIfSpeed_0 rfl (lv_at hl 0 rfl) ?_
  refine dp_get hx hb hts (dp_hin 77 rfl) hown hK hD.1 rfl 1 (by decide) (hts (.fieldLink RX5 16 "DroopBoard" "trial" "LDroopBoard$Board;") (List.mem_of_getElem? (i := 1) rfl)) rfl dX5_tellIfSpeed_1 ?_
  refine lv_aload_n hx hb dX5_tellIfSpeed_4 rfl (lv_at hl 0 rfl) ?_
  refine dp_get hx hb hts (dp_hin 77 rfl) hown hK hD.1 rfl 0 (by decide) (hts (.fieldLink RX5 10 "DroopBoard" "board" "LDroopBoard$Board;") (List.mem_of_getElem? (i := 2) rfl)) rfl dX5_tellIfSpeed_5 ?_
  refine dp_Vv hF hK hN (c_X0_copyFrom l D G (aB α 1) (aB α 0) RT R _ hD.2.2.1 hD.2.1 (aB_inj hα (by omega)) (aB_ne hα (by omega) (by omega) (by omega)) hbz) (cwV 1 hts gX5_tellIfSpeed_X0_copyFrom rfl rfl rfl (by decide +kernel) ⟨Nat.le_of_ble_eq_true rfl, Nat.le_of_ble_eq_true rfl⟩) (dp_recv hK hD.2.2.1.1 rfl) hS (A5_b (by omega)) [] rfl rfl hl.1 (Nat.le_of_ble_eq_true rfl) dX5_tellIfSpeed_8 ⟨Nat.le_of_ble_eq_true rfl, Nat.le_of_ble_eq_true rfl⟩ (fun H1 locs hp hzH1 hkH1 hS => ?_)
  obtain ⟨hz9, hB9⟩ := hp
  have hD := hD.trial hα hw hB9 (fun q hq => hq) hkH1
  refine lv_aload_n hx hb dX5_tellIfSpeed_11 rfl (lv_at hl 0 rfl) ?_
  refine dp_get hx hb hts (dp_hin 77 rfl) hown hK hD.1 rfl 1 (by decide) (hts (.fieldLink RX5 16 "DroopBoard" "trial" "LDroopBoard$Board;") (List.mem_of_getElem? (i := 1) rfl)) rfl dX5_tellIfSpeed_12 ?_
  refine dp_get hx hb hts (dp_hin 83 rfl) hown hK hD.2.2.1.1 rfl 0 (by decide) (hts (.fieldLink RX5 44 "DroopBoard$Board" "diesels" "[LDroopBoard$Diesel;") (List.mem_of_getElem? (i := 3) rfl)) rfl dX5_tellIfSpeed_15 ?_
  refine lv_iload_n hx hb dX5_tellIfSpeed_18 rfl (lv_at hl 1 rfl) ?_
  refine dp_aald hx hb hK hD.2.2.1.2.1 1 rfl j rfl hj (by decide) rfl dX5_tellIfSpeed_19 ?_
  refine lv_iload_n hx hb dX5_tellIfSpeed_20 rfl (lv_at hl 2 rfl) ?_
  refine dp_put (A := A5 α) (v := .int v) hx hb hts (dp_hin 88 rfl) tyX1 tyX1_ok nmX1 hown hK (hD.2.2.1.2.2.2.2.1 j hj) (A5_b (j := 1) (by omega) _ ⟨4 + j, by omega, rfl⟩) hS rfl 2 (by decide) (hts (.fieldLink RX5 72 "DroopBoard$Diesel" "speed" "I") (List.mem_of_getElem? (i := 4) rfl)) rfl rfl rfl (Nat.le_of_ble_eq_true rfl) dX5_tellIfSpeed_21 (fun H2 locs hH2 hzH2 hkH2 hS => ?_)
  have hB9 : BD D G (aB α 1) (upd R (10 + 10 * j) v) H2 := BD.putD (k := 2) (by omega) hD.2.2.1 (aB_inj hα (by omega)) hj hH2 hkH2
  have hD := hD.trial (A := fun q => q = (aB α 1) (4 + j)) hα hw hB9 (fun q hq => ⟨4 + j, by omega, hq⟩) (fun q _ hne => hkH2 q hne)
  have hD : DP D G α w R (usp R j v) RS kp sv n F len H2 := hD
  refine lv_aload_n hx hb dX5_tellIfSpeed_24 rfl (lv_at hl 0 rfl) ?_
  refine dp_get hx hb hts (dp_hin 77 rfl) hown hK hD.1 rfl 1 (by decide) (hts (.fieldLink RX5 16 "DroopBoard" "trial" "LDroopBoard$Board;") (List.mem_of_getElem? (i := 1) rfl)) rfl dX5_tellIfSpeed_25 ?_
  refine dp_Vi hF hK hN (c_X0_frequency l D G (aB α 1) (usp R j v)  _ hD.2.2.1 hm2) (cwV 0 hts gX5_tellIfSpeed_X0_frequency rfl rfl rfl (by decide +kernel) ⟨Nat.le_of_ble_eq_true rfl, Nat.le_of_ble_eq_true rfl⟩) (dp_recv hK hD.2.2.1.1 rfl) hS nA_i [] rfl rfl hl.1 (Nat.le_of_ble_eq_true rfl) dX5_tellIfSpeed_28 ⟨Nat.le_of_ble_eq_true rfl, Nat.le_of_ble_eq_true rfl⟩ (fun rH3 H3 locs hp hzH3 hkH3 hS => ?_)
  obtain ⟨rfl, rfl⟩ := hp
  refine lv_istore (lv' := [(4, .int (fq (usp R j v))), (0, .ref (α 0)), (1, .int (nI j)), (2, .int v), (3, .int q)]) hx hb dX5_tellIfSpeed_31 hl (by decide) rfl (fun ls hl => ?_)
  refine lv_iload_n hx hb dX5_tellIfSpeed_33 rfl (lv_at hl 4 rfl) ?_
  by_cases e1 : q = 0
  · refine lv_lookup (off := 26) (tgt := 60) hx hb dX5_tellIfSpeed_34 (by decide) (by rw [e1]; decide) (by decide) ?_
    refine lv_iload hx hb dX5_tellIfSpeed_60 (lv_at hl 0 rfl) ?_
    exact W.iret hx hb hr (fun t ht hW => ⟨⟨fq (usp R j v), H2, rfl, ⟨by simp [tif, e1], ⟨w, _, hw, hD⟩⟩, ht⟩, hS.F ht⟩) hS.2.2 dX5_tellIfSpeed_62
  by_cases e2 : q = 1
  · refine lv_lookup (off := 29) (tgt := 63) hx hb dX5_tellIfSpeed_34 (by decide) (by rw [e2]; decide) (by decide) ?_
    refine lv_aload_n hx hb dX5_tellIfSpeed_63 rfl (lv_at hl 1 rfl) ?_
    refine dp_get hx hb hts (dp_hin 77 rfl) hown hK hD.1 rfl 1 (by decide) (hts (.fieldLink RX5 16 "DroopBoard" "trial" "LDroopBoard$Board;") (List.mem_of_getElem? (i := 1) rfl)) rfl dX5_tellIfSpeed_64 ?_
    refine lv_iload_n hx hb dX5_tellIfSpeed_67 rfl (lv_at hl 2 rfl) ?_
    refine lv_iload hx hb dX5_tellIfSpeed_68 (lv_at hl 0 rfl) ?_
    refine dp_Vi hF hK hN (c_X0_power l D G (aB α 1) (usp R j v) j (fq (usp R j v)) _ hD.2.2.1 hj) (cwV 2 hts gX5_tellIfSpeed_X0_power rfl rfl rfl (by decide +kernel) ⟨Nat.le_of_ble_eq_true rfl, Nat.le_of_ble_eq_true rfl⟩) (dp_recv hK hD.2.2.1.1 rfl) hS nA_i [] rfl rfl hl.1 (Nat.le_of_ble_eq_true rfl) dX5_tellIfSpeed_70 ⟨Nat.le_of_ble_eq_true rfl, Nat.le_of_ble_eq_true rfl⟩ (fun rH4 H4 locs hp hzH4 hkH4 hS => ?_)
    obtain ⟨rfl, rfl⟩ := hp
    exact W.iret hx hb hr (fun t ht hW => ⟨⟨pw (usp R j v) j (fq (usp R j v)), H2, rfl, ⟨by simp [tif, e1, e2], ⟨w, _, hw, hD⟩⟩, ht⟩, hS.F ht⟩) hS.2.2 dX5_tellIfSpeed_73
  refine lv_lookup (off := 40) (tgt := 74) hx hb dX5_tellIfSpeed_34 (by decide) (by rw [lv_osw e1 (by decide), lv_osw e2 (by decide)]; rfl) (by decide) ?_
  refine lv_aload_n hx hb dX5_tellIfSpeed_74 rfl (lv_at hl 1 rfl) ?_
  refine dp_get hx hb hts (dp_hin 77 rfl) hown hK hD.1 rfl 1 (by decide) (hts (.fieldLink RX5 16 "DroopBoard" "trial" "LDroopBoard$Board;") (List.mem_of_getElem? (i := 1) rfl)) rfl dX5_tellIfSpeed_75 ?_
  refine lv_iload hx hb dX5_tellIfSpeed_78 (lv_at hl 0 rfl) ?_
  refine dp_Vi hF hK hN (c_X0_lack l D G (aB α 1) (usp R j v) (fq (usp R j v)) _ hD.2.2.1 ) (cwV 1 hts gX5_tellIfSpeed_X0_lack rfl rfl rfl (by decide +kernel) ⟨Nat.le_of_ble_eq_true rfl, Nat.le_of_ble_eq_true rfl⟩) (dp_recv hK hD.2.2.1.1 rfl) hS nA_i [] rfl rfl hl.1 (Nat.le_of_ble_eq_true rfl) dX5_tellIfSpeed_80 ⟨Nat.le_of_ble_eq_true rfl, Nat.le_of_ble_eq_true rfl⟩ (fun rH5 H5 locs hp hzH5 hkH5 hS => ?_)
  obtain ⟨rfl, rfl⟩ := hp
  exact W.iret hx hb hr (fun t ht hW => ⟨⟨lk (usp R j v) (fq (usp R j v)), H2, rfl, ⟨by simp [tif, e1, e2], ⟨w, _, hw, hD⟩⟩, ht⟩, hS.F ht⟩) hS.2.2 dX5_tellIfSpeed_83

set_option maxHeartbeats 600000 in
set_option maxRecDepth 100000 in
theorem c_X5_ticksUntilClosing (l : Launch) (D : va_G) (G : Nat → ClassId) (α : Nat → Nat) (w : Nat → Nat) (R RT RS : Nat → Int32) (kp : Int32) (sv : Nat → Nat → Int32) (n : Nat) (F : Nat → Int32) (len : Nat) (j : Nat) (H : Heap) (hα : inj 115 α) (hw : pm w) (hD : DP D G α w R RT RS kp sv n F len H) (hbz : bz R) (hm : mono R) (hn6 : n ≤ 6) (hl6 : len ≤ 60) (hj : j < 3) (hmp : ∀ k, k ≤ 501 → mono (pt R k)) : Met l yX5_ticksUntilClosing wsX5_ticksUntilClosing ({ frames := 4, cells := 0, slots := 0, locals := 92 } : Room) (va_Pc [.ref (α 0), .int (nI j)] (CX D G H)) (QI (A5 α) (fun r h => cin R j = r ∧ DW D G α R RS kp sv n F len h)) 0 0 (A5 α) := by
  refine Met.ofW (cc := cX5_ticksUntilClosing) (maxL := 3) (ret := (some .int)) (by decide) rfl ?_
  intro p e s m args below meth c s₁ B0 hml hv
  obtain ⟨rfl, rfl, hK, hN⟩ := hv
  have hx := B0.exec
  have hb := B0.bytes
  have hr := B0.returns
  have hts := atoms_spec (ws := wsX5_ticksUntilClosing) B0.pre
  have hown : s.vm.findClass RX5 = some m.cls := findClass_of_methodNamed B0.named
  have hlocks := B0.notSynchronized
  have hF : CallFix p m c cX5_ticksUntilClosing 3 s ([.ref (α 0), .int (nI j)] : List Value).toArray wsX5_ticksUntilClosing RX5 := ⟨hx, hb, hml, hown, hts⟩
  have hS : va_S (A5 α) s.heap s.heap [] := va_S.rf
  have hl := lv_entry ([.ref (α 0), .int (nI j)]) (n := 3) (Nat.le_of_ble_eq_true rfl)
  rw [lg_entry_eq]
  generalize (lg_sl ([.ref (α 0), .int (nI j)]) ++ List.replicate (3 - (lg_sl ([.ref (α 0), .int (nI j)])).length) Slot.unset).toArray = ls at hl ⊢
  have hl : lv_has ls 3 [(0, .ref (α 0)), (1, .int (nI j))] := hl
  refine lv_aload_n hx hb dX5_ticksUntilClosing_0 rfl (lv_at hl 0 rfl) ?_
  refine dp_get hx hb hts (dp_hin 125 rfl) hown hK hD.1 rfl 0 (by decide) (hts (.fieldLink RX5 10 "DroopBoard" "board" "LDroopBoard$Board;") (List.mem_of_getElem? (i := 1) rfl)) rfl dX5_ticksUntilClosing_1 ?_
  refine dp_get hx hb hts (dp_hin 131 rfl) hown hK hD.2.1.1 rfl 0 (by decide) (hts (.fieldLink RX5 44 "DroopBoard$Board" "diesels" "[LDroopBoard$Diesel;") (List.mem_of_getElem? (i := 2) rfl)) rfl dX5_ticksUntilClosing_4 ?_
  refine lv_iload_n hx hb dX5_ticksUntilClosing_7 rfl (lv_at hl 1 rfl) ?_
  refine dp_aald hx hb hK hD.2.1.2.1 1 rfl j rfl hj (by decide) rfl dX5_ticksUntilClosing_8 ?_
  refine dp_get hx hb hts (dp_hin 136 rfl) hown hK (hD.2.1.2.2.2.2.1 j hj) rfl 3 (by decide) (hts (.fieldLink RX5 48 "DroopBoard$Diesel" "runs" "Z") (List.mem_of_getElem? (i := 3) rfl)) rfl dX5_ticksUntilClosing_9 ?_
  refine lv_if_ne (tgt := 17) hx hb dX5_ticksUntilClosing_12 (by decide) (fun c1 => ?_) (fun c1 => ?_)
  · refine lv_aload_n hx hb dX5_ticksUntilClosing_17 rfl (lv_at hl 0 rfl) ?_
    refine dp_get hx hb hts (dp_hin 125 rfl) hown hK hD.1 rfl 1 (by decide) (hts (.fieldLink RX5 16 "DroopBoard" "trial" "LDroopBoard$Board;") (List.mem_of_getElem? (i := 4) rfl)) rfl dX5_ticksUntilClosing_18 ?_
    refine lv_aload_n hx hb dX5_ticksUntilClosing_21 rfl (lv_at hl 0 rfl) ?_
    refine dp_get hx hb hts (dp_hin 125 rfl) hown hK hD.1 rfl 0 (by decide) (hts (.fieldLink RX5 10 "DroopBoard" "board" "LDroopBoard$Board;") (List.mem_of_getElem? (i := 1) rfl)) rfl dX5_ticksUntilClosing_22 ?_
    refine dp_Vv hF hK hN (c_X0_copyFrom l D G (aB α 1) (aB α 0) RT R _ hD.2.2.1 hD.2.1 (aB_inj hα (by omega)) (aB_ne hα (by omega) (by omega) (by omega)) hbz) (cwV 1 hts gX5_ticksUntilClosing_X0_copyFrom rfl rfl rfl (by decide +kernel) ⟨Nat.le_of_ble_eq_true rfl, Nat.le_of_ble_eq_true rfl⟩) (dp_recv hK hD.2.2.1.1 rfl) hS (A5_b (by omega)) [] rfl rfl hl.1 (Nat.le_of_ble_eq_true rfl) dX5_ticksUntilClosing_25 ⟨Nat.le_of_ble_eq_true rfl, Nat.le_of_ble_eq_true rfl⟩ (fun H1 locs hp hzH1 hkH1 hS => ?_)
    obtain ⟨hz9, hB9⟩ := hp
    have hD := hD.trial hα hw hB9 (fun q hq => hq) hkH1
    refine lv_iconst (v := 0) hx hb dX5_ticksUntilClosing_28 (by decide) ?_
    refine lv_istore_n (lv' := [(2, .int 0), (0, .ref (α 0)), (1, .int (nI j))]) hx hb dX5_ticksUntilClosing_29 rfl hl (by decide) rfl (fun ls hl => ?_)
    have loop30 : ∀ (m9 : Nat) (i : Nat) (Hh : Heap) (_ : i + m9 = 501) (_ : cgo R j 0 501 = cgo R j i m9) (_ : DP D G α w R (pt R i) RS kp sv n F len Hh) (locs : List Loc) (_ : va_S (A5 α) s.heap Hh locs) (ls : Array Slot) (_ : lv_has ls 3 [(0, .ref (α 0)), (1, .int (nI j)), (2, .int (nI i))]), W p l e (headSpec wsX5_ticksUntilClosing ({ frames := 4, cells := 0, slots := 0, locals := 92 } : Room)).room s m ([.ref (α 0), .int (nI j)] : List Value).toArray below meth c Hh locs 0 0 (MQ below (QI (A5 α) (fun r h => cin R j = r ∧ DW D G α R RS kp sv n F len h)) ([.ref (α 0), .int (nI j)] : List Value).toArray s 0 0 (A5 α)) (F0 m 30 ls []) := by
      intro m9
      induction m9 with
      | zero =>
        intro i Hh hin hc9 hD locs hS ls hl
        refine lv_iload_n hx hb dX5_ticksUntilClosing_30 rfl (lv_at hl 2 rfl) ?_
        refine lv_sipush (v := 500) hx hb dX5_ticksUntilClosing_31 (by decide) ?_
        refine lv_icmp_gt (tgt := 64) hx hb dX5_ticksUntilClosing_34 (by decide) (fun c2 => ?_) (fun c2 => absurd (nI_lt (a := 500) (b := i) (by omega) (by omega)) c2)
        refine lv_iconst (v := (-1)) hx hb dX5_ticksUntilClosing_64 (by decide) ?_
        exact W.iret hx hb hr (fun t ht hW => ⟨⟨-1, Hh, rfl, ⟨by rw [cin, if_neg c1, hc9]; rfl, ⟨w, _, hw, hD⟩⟩, ht⟩, hS.F ht⟩) hS.2.2 dX5_ticksUntilClosing_65
      | succ m9 ih30 =>
        intro i Hh hin hc9 hD locs hS ls hl
        refine lv_iload_n hx hb dX5_ticksUntilClosing_30 rfl (lv_at hl 2 rfl) ?_
        refine lv_sipush (v := 500) hx hb dX5_ticksUntilClosing_31 (by decide) ?_
        refine lv_icmp_gt (tgt := 64) hx hb dX5_ticksUntilClosing_34 (by decide) (fun c3 => absurd c3 (nI_nlt (a := 500) (b := i) (by omega) (by omega))) (fun c3 => ?_)
        refine lv_aload_n hx hb dX5_ticksUntilClosing_37 rfl (lv_at hl 0 rfl) ?_
        refine dp_get hx hb hts (dp_hin 125 rfl) hown hK hD.1 rfl 1 (by decide) (hts (.fieldLink RX5 16 "DroopBoard" "trial" "LDroopBoard$Board;") (List.mem_of_getElem? (i := 4) rfl)) rfl dX5_ticksUntilClosing_38 ?_
        refine lv_iload_n hx hb dX5_ticksUntilClosing_41 rfl (lv_at hl 1 rfl) ?_
        refine dp_Vi hF hK hN (c_X0_whyNotClosed l D G (aB α 1) (pt R i) j _ hD.2.2.1 hj (hmp i (by omega))) (cwV 1 hts gX5_ticksUntilClosing_X0_whyNotClosed rfl rfl rfl (by decide +kernel) ⟨Nat.le_of_ble_eq_true rfl, Nat.le_of_ble_eq_true rfl⟩) (dp_recv hK hD.2.2.1.1 rfl) hS nA_i [] rfl rfl hl.1 (Nat.le_of_ble_eq_true rfl) dX5_ticksUntilClosing_42 ⟨Nat.le_of_ble_eq_true rfl, Nat.le_of_ble_eq_true rfl⟩ (fun rH2 H2 locs hp hzH2 hkH2 hS => ?_)
        obtain ⟨rfl, rfl⟩ := hp
        refine lv_if_ne (tgt := 50) hx hb dX5_ticksUntilClosing_45 (by decide) (fun c4 => ?_) (fun c4 => ?_)
        · refine lv_aload_n hx hb dX5_ticksUntilClosing_50 rfl (lv_at hl 0 rfl) ?_
          refine dp_get hx hb hts (dp_hin 125 rfl) hown hK hD.1 rfl 1 (by decide) (hts (.fieldLink RX5 16 "DroopBoard" "trial" "LDroopBoard$Board;") (List.mem_of_getElem? (i := 4) rfl)) rfl dX5_ticksUntilClosing_51 ?_
          refine dp_Vi hF hK hN (c_X0_tick l D G (aB α 1) (pt R i) _ hD.2.2.1 (aB_inj hα (by omega)) (hmp i (by omega))) (cwV 0 hts gX5_ticksUntilClosing_X0_tick rfl rfl rfl (by decide +kernel) ⟨Nat.le_of_ble_eq_true rfl, Nat.le_of_ble_eq_true rfl⟩) (dp_recv hK hD.2.2.1.1 rfl) hS (A5_b (by omega)) [] rfl rfl hl.1 (Nat.le_of_ble_eq_true rfl) dX5_ticksUntilClosing_54 ⟨Nat.le_of_ble_eq_true rfl, Nat.le_of_ble_eq_true rfl⟩ (fun rH3 H3 locs hp hzH3 hkH3 hS => ?_)
          obtain ⟨hz9, hB9, rfl⟩ := hp
          have hD : DP D G α w R (pt R (i + 1)) RS kp sv n F len H3 := hD.trial hα hw hB9 (fun q hq => hq) hkH3
          refine lv_pop hx hb dX5_ticksUntilClosing_57 rfl ?_
          refine lv_iinc (v := nI (i + 1)) (lv' := [(2, .int (nI (i + 1))), (0, .ref (α 0)), (1, .int (nI j))]) hx hb dX5_ticksUntilClosing_58 hl (k := 2) rfl (nI_1 i) (by decide) rfl (fun ls hl => ?_)
          refine lv_goto (tgt := 30) hx hb dX5_ticksUntilClosing_61 (by decide) ?_
          exact ih30 (i + 1) H3 (by omega) (hc9.trans (by rw [cgo, if_neg c4])) hD _ hS _ (lv_sub hl [1, 2, 0] rfl)
        refine lv_iload_n hx hb dX5_ticksUntilClosing_48 rfl (lv_at hl 2 rfl) ?_
        exact W.iret hx hb hr (fun t ht hW => ⟨⟨nI i, Hh, rfl, ⟨by rw [cin, if_neg c1, hc9, cgo, if_pos c4], ⟨w, _, hw, hD⟩⟩, ht⟩, hS.F ht⟩) hS.2.2 dX5_ticksUntilClosing_49
    exact loop30 501 0 H1 rfl rfl hD _ hS _ (lv_sub hl [1, 2, 0] rfl)
  refine lv_iconst (v := (-1)) hx hb dX5_ticksUntilClosing_15 (by decide) ?_
  exact W.iret hx hb hr (fun t ht hW => ⟨⟨-1, s.heap, rfl, ⟨by simp [cin, c1], ⟨w, _, hw, hD⟩⟩, ht⟩, hS.F ht⟩) hS.2.2 dX5_ticksUntilClosing_16

set_option maxHeartbeats 600000 in
set_option maxRecDepth 100000 in
theorem c_X5_nextTrip (l : Launch) (D : va_G) (G : Nat → ClassId) (α : Nat → Nat) (w : Nat → Nat) (R RT RS : Nat → Int32) (kp : Int32) (sv : Nat → Nat → Int32) (n : Nat) (F : Nat → Int32) (len : Nat)  (H : Heap) (hα : inj 115 α) (hw : pm w) (hD : DP D G α w R RT RS kp sv n F len H) (hbz : bz R) (hm : mono R) (hn6 : n ≤ 6) (hl6 : len ≤ 60) (hmp : ∀ k, k ≤ 501 → mono (pt R k)) : Met l yX5_nextTrip wsX5_nextTrip ({ frames := 4, cells := 0, slots := 0, locals := 92 } : Room) (va_Pc [.ref (α 0)] (CX D G H)) (QI (A5 α) (fun r h => ntp R = r ∧ DW D G α R RS kp sv n F len h)) 0 0 (A5 α) := by
  refine Met.ofW (cc := cX5_nextTrip) (maxL := 2) (ret := (some .int)) (by decide) rfl ?_
  intro p e s m args below meth c s₁ B0 hml hv
  obtain ⟨rfl, rfl, hK, hN⟩ := hv
  have hx := B0.exec
  have hb := B0.bytes
  have hr := B0.returns
  have hts := atoms_spec (ws := wsX5_nextTrip) B0.pre
  have hown : s.vm.findClass RX5 = some m.cls := findClass_of_methodNamed B0.named
  have hlocks := B0.notSynchronized
  have hF : CallFix p m c cX5_nextTrip 2 s ([.ref (α 0)] : List Value).toArray wsX5_nextTrip RX5 := ⟨hx, hb, hml, hown, hts⟩
  have hS : va_S (A5 α) s.heap s.heap [] := va_S.rf
  have hl := lv_entry ([.ref (α 0)]) (n := 2) (Nat.le_of_ble_eq_true rfl)
  rw [lg_entry_eq]
  generalize (lg_sl ([.ref (α 0)]) ++ List.replicate (2 - (lg_sl ([.ref (α 0)])).length) Slot.unset).toArray = ls at hl ⊢
  have hl : lv_has ls 2 [(0, .ref (α 0))] := hl
  refine lv_aload_n hx hb dX5_nextTrip_0 rfl (lv_at hl 0 rfl) ?_
  refine dp_get hx hb hts (dp_hin 107 rfl) hown hK hD.1 rfl 1 (by decide) (hts (.fieldLink RX5 16 "DroopBoard" "trial" "LDroopBoard$Board;") (List.mem_of_getElem? (i := 1) rfl)) rfl dX5_nextTrip_1 ?_
  refine lv_aload_n hx hb dX5_nextTrip_4 rfl (lv_at hl 0 rfl) ?_
  refine dp_get hx hb hts (dp_hin 107 rfl) hown hK hD.1 rfl 0 (by decide) (hts (.fieldLink RX5 10 "DroopBoard" "board" "LDroopBoard$Board;") (List.mem_of_getElem? (i := 2) rfl)) rfl dX5_nextTrip_5 ?_
  refine dp_Vv hF hK hN (c_X0_copyFrom l D G (aB α 1) (aB α 0) RT R _ hD.2.2.1 hD.2.1 (aB_inj hα (by omega)) (aB_ne hα (by omega) (by omega) (by omega)) hbz) (cwV 1 hts gX5_nextTrip_X0_copyFrom rfl rfl rfl (by decide +kernel) ⟨Nat.le_of_ble_eq_true rfl, Nat.le_of_ble_eq_true rfl⟩) (dp_recv hK hD.2.2.1.1 rfl) hS (A5_b (by omega)) [] rfl rfl hl.1 (Nat.le_of_ble_eq_true rfl) dX5_nextTrip_8 ⟨Nat.le_of_ble_eq_true rfl, Nat.le_of_ble_eq_true rfl⟩ (fun H1 locs hp hzH1 hkH1 hS => ?_)
  obtain ⟨hz9, hB9⟩ := hp
  have hD := hD.trial hα hw hB9 (fun q hq => hq) hkH1
  refine lv_iconst (v := 1) hx hb dX5_nextTrip_11 (by decide) ?_
  refine lv_istore_n (lv' := [(1, .int 1), (0, .ref (α 0))]) hx hb dX5_nextTrip_12 rfl hl (by decide) rfl (fun ls hl => ?_)
  have loop13 : ∀ (m9 : Nat) (k : Nat) (Hh : Heap) (_ : k + m9 = 100) (_ : ngo R 0 100 = ngo R k m9) (_ : DP D G α w R (pt R k) RS kp sv n F len Hh) (locs : List Loc) (_ : va_S (A5 α) s.heap Hh locs) (ls : Array Slot) (_ : lv_has ls 2 [(0, .ref (α 0)), (1, .int (nI (k + 1)))]), W p l e (headSpec wsX5_nextTrip ({ frames := 4, cells := 0, slots := 0, locals := 92 } : Room)).room s m ([.ref (α 0)] : List Value).toArray below meth c Hh locs 0 0 (MQ below (QI (A5 α) (fun r h => ntp R = r ∧ DW D G α R RS kp sv n F len h)) ([.ref (α 0)] : List Value).toArray s 0 0 (A5 α)) (F0 m 13 ls []) := by
    intro m9
    induction m9 with
    | zero =>
      intro k Hh hin hc9 hD locs hS ls hl
      refine lv_iload_n hx hb dX5_nextTrip_13 rfl (lv_at hl 1 rfl) ?_
      refine lv_bipush (v := 100) hx hb dX5_nextTrip_14 (by decide) ?_
      refine lv_icmp_gt (tgt := 37) hx hb dX5_nextTrip_16 (by decide) (fun c1 => ?_) (fun c1 => absurd (nI_lt (a := 100) (b := k + 1) (by omega) (by omega)) c1)
      refine lv_iconst (v := (-1)) hx hb dX5_nextTrip_37 (by decide) ?_
      exact W.iret hx hb hr (fun t ht hW => ⟨⟨-1, Hh, rfl, ⟨by rw [ntp, hc9]; rfl, ⟨w, _, hw, hD⟩⟩, ht⟩, hS.F ht⟩) hS.2.2 dX5_nextTrip_38
    | succ m9 ih13 =>
      intro k Hh hin hc9 hD locs hS ls hl
      refine lv_iload_n hx hb dX5_nextTrip_13 rfl (lv_at hl 1 rfl) ?_
      refine lv_bipush (v := 100) hx hb dX5_nextTrip_14 (by decide) ?_
      refine lv_icmp_gt (tgt := 37) hx hb dX5_nextTrip_16 (by decide) (fun c2 => absurd c2 (nI_nlt (a := 100) (b := k + 1) (by omega) (by omega))) (fun c2 => ?_)
      refine lv_aload_n hx hb dX5_nextTrip_19 rfl (lv_at hl 0 rfl) ?_
      refine dp_get hx hb hts (dp_hin 107 rfl) hown hK hD.1 rfl 1 (by decide) (hts (.fieldLink RX5 16 "DroopBoard" "trial" "LDroopBoard$Board;") (List.mem_of_getElem? (i := 1) rfl)) rfl dX5_nextTrip_20 ?_
      refine dp_Vi hF hK hN (c_X0_tick l D G (aB α 1) (pt R k) _ hD.2.2.1 (aB_inj hα (by omega)) (hmp k (by omega))) (cwV 0 hts gX5_nextTrip_X0_tick rfl rfl rfl (by decide +kernel) ⟨Nat.le_of_ble_eq_true rfl, Nat.le_of_ble_eq_true rfl⟩) (dp_recv hK hD.2.2.1.1 rfl) hS (A5_b (by omega)) [] rfl rfl hl.1 (Nat.le_of_ble_eq_true rfl) dX5_nextTrip_23 ⟨Nat.le_of_ble_eq_true rfl, Nat.le_of_ble_eq_true rfl⟩ (fun rH2 H2 locs hp hzH2 hkH2 hS => ?_)
      obtain ⟨hz9, hB9, rfl⟩ := hp
      have hD : DP D G α w R (pt R (k + 1)) RS kp sv n F len H2 := hD.trial hα hw hB9 (fun q hq => hq) hkH2
      refine lv_if_le (tgt := 31) hx hb dX5_nextTrip_26 (by decide) (fun c3 => ?_) (fun c3 => ?_)
      · refine lv_iinc (v := nI ((k + 1) + 1)) (lv' := [(1, .int (nI ((k + 1) + 1))), (0, .ref (α 0))]) hx hb dX5_nextTrip_31 hl (k := 1) rfl (nI_1 (k + 1)) (by decide) rfl (fun ls hl => ?_)
        refine lv_goto (tgt := 13) hx hb dX5_nextTrip_34 (by decide) ?_
        exact ih13 (k + 1) H2 (by omega) (hc9.trans (by rw [ngo, if_pos c3])) hD _ hS _ (lv_sub hl [1, 0] rfl)
      refine lv_iload_n hx hb dX5_nextTrip_29 rfl (lv_at hl 1 rfl) ?_
      exact W.iret hx hb hr (fun t ht hW => ⟨⟨nI (k + 1), H2, rfl, ⟨by rw [ntp, hc9, ngo, if_neg c3], ⟨w, _, hw, hD⟩⟩, ht⟩, hS.F ht⟩) hS.2.2 dX5_nextTrip_30
  exact loop13 100 0 H1 rfl rfl hD _ hS _ (lv_sub hl [1, 0] rfl)

set_option maxHeartbeats 600000 in
set_option maxRecDepth 100000 in
theorem c_X5_speedForFairShare (l : Launch) (D : va_G) (G : Nat → ClassId) (α : Nat → Nat) (w : Nat → Nat) (R RT RS : Nat → Int32) (kp : Int32) (sv : Nat → Nat → Int32) (n : Nat) (F : Nat → Int32) (len : Nat) (j : Nat) (H : Heap) (hα : inj 115 α) (hw : pm w) (hD : DP D G α w R RT RS kp sv n F len H) (hbz : bz R) (hm : mono R) (hn6 : n ≤ 6) (hl6 : len ≤ 60) (hj : j < 3) (hms : ∀ k, k ≤ 600 → mono (usp R j (nI (4700 + k)))) : Met l yX5_speedForFairShare wsX5_speedForFairShare ({ frames := 3, cells := 0, slots := 0, locals := 69 } : Room) (va_Pc [.ref (α 0), .int (nI j)] (CX D G H)) (QI (A5 α) (fun r h => fair R j = r ∧ DW D G α R RS kp sv n F len h)) 0 0 (A5 α) := by
  refine Met.ofW (cc := cX5_speedForFairShare) (maxL := 8) (ret := (some .int)) (by decide) rfl ?_
  intro p e s m args below meth c s₁ B0 hml hv
  obtain ⟨rfl, rfl, hK, hN⟩ := hv
  have hx := B0.exec
  have hb := B0.bytes
  have hr := B0.returns
  have hts := atoms_spec (ws := wsX5_speedForFairShare) B0.pre
  have hown : s.vm.findClass RX5 = some m.cls := findClass_of_methodNamed B0.named
  have hlocks := B0.notSynchronized
  have hF : CallFix p m c cX5_speedForFairShare 8 s ([.ref (α 0), .int (nI j)] : List Value).toArray wsX5_speedForFairShare RX5 := ⟨hx, hb, hml, hown, hts⟩
  have hS : va_S (A5 α) s.heap s.heap [] := va_S.rf
  have hl := lv_entry ([.ref (α 0), .int (nI j)]) (n := 8) (Nat.le_of_ble_eq_true rfl)
  rw [lg_entry_eq]
  generalize (lg_sl ([.ref (α 0), .int (nI j)]) ++ List.replicate (8 - (lg_sl ([.ref (α 0), .int (nI j)])).length) Slot.unset).toArray = ls at hl ⊢
  have hl : lv_has ls 8 [(0, .ref (α 0)), (1, .int (nI j))] := hl
  refine lv_aload_n hx hb dX5_speedForFairShare_0 rfl (lv_at hl 0 rfl) ?_
  refine dp_get hx hb hts (dp_hin 84 rfl) hown hK hD.1 rfl 0 (by decide) (hts (.fieldLink RX5 10 "DroopBoard" "board" "LDroopBoard$Board;") (List.mem_of_getElem? (i := 1) rfl)) rfl dX5_speedForFairShare_1 ?_
  refine dp_Vi hF hK hN (c_X0_ratingsClosed l D G (aB α 0) R  _ hD.2.1 ) (cwV 0 hts gX5_speedForFairShare_X0_ratingsClosed rfl rfl rfl (by decide +kernel) ⟨Nat.le_of_ble_eq_true rfl, Nat.le_of_ble_eq_true rfl⟩) (dp_recv hK hD.2.1.1 rfl) hS nA_i [] rfl rfl hl.1 (Nat.le_of_ble_eq_true rfl) dX5_speedForFairShare_4 ⟨Nat.le_of_ble_eq_true rfl, Nat.le_of_ble_eq_true rfl⟩ (fun rH1 H1 locs hp hzH1 hkH1 hS => ?_)
  obtain ⟨rfl, rfl⟩ := hp
  refine lv_istore_n (lv' := [(2, .int (rat R 3)), (0, .ref (α 0)), (1, .int (nI j))]) hx hb dX5_speedForFairShare_7 rfl hl (by decide) rfl (fun ls hl => ?_)
  refine lv_aload_n hx hb dX5_speedForFairShare_8 rfl (lv_at hl 1 rfl) ?_
  refine dp_get hx hb hts (dp_hin 84 rfl) hown hK hD.1 rfl 0 (by decide) (hts (.fieldLink RX5 10 "DroopBoard" "board" "LDroopBoard$Board;") (List.mem_of_getElem? (i := 1) rfl)) rfl dX5_speedForFairShare_9 ?_
  refine dp_get hx hb hts (dp_hin 90 rfl) hown hK hD.2.1.1 rfl 0 (by decide) (hts (.fieldLink RX5 44 "DroopBoard$Board" "diesels" "[LDroopBoard$Diesel;") (List.mem_of_getElem? (i := 2) rfl)) rfl dX5_speedForFairShare_12 ?_
  refine lv_iload_n hx hb dX5_speedForFairShare_15 rfl (lv_at hl 2 rfl) ?_
  refine dp_aald hx hb hK hD.2.1.2.1 1 rfl j rfl hj (by decide) rfl dX5_speedForFairShare_16 ?_
  refine dp_get hx hb hts (dp_hin 95 rfl) hown hK (hD.2.1.2.2.2.2.1 j hj) rfl 4 (by decide) (hts (.fieldLink RX5 108 "DroopBoard$Diesel" "closed" "Z") (List.mem_of_getElem? (i := 3) rfl)) rfl dX5_speedForFairShare_17 ?_
  refine lv_if_eq (tgt := 27) hx hb dX5_speedForFairShare_20 (by decide) (fun c1 => ?_) (fun c1 => ?_)
  · refine lv_iconst (v := (-1)) hx hb dX5_speedForFairShare_27 (by decide) ?_
    exact W.iret hx hb hr (fun t ht hW => ⟨⟨-1, s.heap, rfl, ⟨by simp [fair, c1], ⟨w, _, hw, hD⟩⟩, ht⟩, hS.F ht⟩) hS.2.2 dX5_speedForFairShare_28
  refine lv_iload_n hx hb dX5_speedForFairShare_23 rfl (lv_at hl 0 rfl) ?_
  refine lv_if_ne (tgt := 29) hx hb dX5_speedForFairShare_24 (by decide) (fun c2 => ?_) (fun c2 => ?_)
  · refine lv_aload_n hx hb dX5_speedForFairShare_29 rfl (lv_at hl 1 rfl) ?_
    refine dp_get hx hb hts (dp_hin 84 rfl) hown hK hD.1 rfl 0 (by decide) (hts (.fieldLink RX5 10 "DroopBoard" "board" "LDroopBoard$Board;") (List.mem_of_getElem? (i := 1) rfl)) rfl dX5_speedForFairShare_30 ?_
    refine dp_Vi hF hK hN (c_X0_demand l D G (aB α 0) R  _ hD.2.1 ) (cwV 0 hts gX5_speedForFairShare_X0_demand rfl rfl rfl (by decide +kernel) ⟨Nat.le_of_ble_eq_true rfl, Nat.le_of_ble_eq_true rfl⟩) (dp_recv hK hD.2.1.1 rfl) hS nA_i [] rfl rfl hl.1 (Nat.le_of_ble_eq_true rfl) dX5_speedForFairShare_33 ⟨Nat.le_of_ble_eq_true rfl, Nat.le_of_ble_eq_true rfl⟩ (fun rH2 H2 locs hp hzH2 hkH2 hS => ?_)
    obtain ⟨rfl, rfl⟩ := hp
    refine lv_aload_n hx hb dX5_speedForFairShare_36 rfl (lv_at hl 1 rfl) ?_
    refine dp_get hx hb hts (dp_hin 84 rfl) hown hK hD.1 rfl 0 (by decide) (hts (.fieldLink RX5 10 "DroopBoard" "board" "LDroopBoard$Board;") (List.mem_of_getElem? (i := 1) rfl)) rfl dX5_speedForFairShare_37 ?_
    refine dp_get hx hb hts (dp_hin 90 rfl) hown hK hD.2.1.1 rfl 0 (by decide) (hts (.fieldLink RX5 44 "DroopBoard$Board" "diesels" "[LDroopBoard$Diesel;") (List.mem_of_getElem? (i := 2) rfl)) rfl dX5_speedForFairShare_40 ?_
    refine lv_iload_n hx hb dX5_speedForFairShare_43 rfl (lv_at hl 2 rfl) ?_
    refine dp_aald hx hb hK hD.2.1.2.1 1 rfl j rfl hj (by decide) rfl dX5_speedForFairShare_44 ?_
    refine dp_get hx hb hts (dp_hin 95 rfl) hown hK (hD.2.1.2.2.2.2.1 j hj) rfl 0 (by decide) (hts (.fieldLink RX5 65 "DroopBoard$Diesel" "rating" "I") (List.mem_of_getElem? (i := 4) rfl)) rfl dX5_speedForFairShare_45 ?_
    refine lv_imul hx hb dX5_speedForFairShare_48 ?_
    refine lv_iload_n hx hb dX5_speedForFairShare_49 rfl (lv_at hl 0 rfl) ?_
    refine lv_idiv hx hb dX5_speedForFairShare_50 c2 ?_
    refine lv_istore_n (lv' := [(3, .int (((ld R) * (R (8 + 10 * j))) / (rat R 3))), (2, .int (rat R 3)), (0, .ref (α 0)), (1, .int (nI j))]) hx hb dX5_speedForFairShare_51 rfl hl (by decide) rfl (fun ls hl => ?_)
    refine lv_iconst (v := (-1)) hx hb dX5_speedForFairShare_52 (by decide) ?_
    refine lv_istore (lv' := [(4, .int (-1)), (3, .int (((ld R) * (R (8 + 10 * j))) / (rat R 3))), (2, .int (rat R 3)), (0, .ref (α 0)), (1, .int (nI j))]) hx hb dX5_speedForFairShare_53 hl (by decide) rfl (fun ls hl => ?_)
    refine lv_iconst (v := 0) hx hb dX5_speedForFairShare_55 (by decide) ?_
    refine lv_istore (lv' := [(5, .int 0), (4, .int (-1)), (3, .int (((ld R) * (R (8 + 10 * j))) / (rat R 3))), (2, .int (rat R 3)), (0, .ref (α 0)), (1, .int (nI j))]) hx hb dX5_speedForFairShare_56 hl (by decide) rfl (fun ls hl => ?_)
    refine lv_aload_n hx hb dX5_speedForFairShare_58 rfl (lv_at hl 4 rfl) ?_
    refine dp_get hx hb hts (dp_hin 84 rfl) hown hK hD.1 rfl 1 (by decide) (hts (.fieldLink RX5 16 "DroopBoard" "trial" "LDroopBoard$Board;") (List.mem_of_getElem? (i := 5) rfl)) rfl dX5_speedForFairShare_59 ?_
    refine lv_aload_n hx hb dX5_speedForFairShare_62 rfl (lv_at hl 4 rfl) ?_
    refine dp_get hx hb hts (dp_hin 84 rfl) hown hK hD.1 rfl 0 (by decide) (hts (.fieldLink RX5 10 "DroopBoard" "board" "LDroopBoard$Board;") (List.mem_of_getElem? (i := 1) rfl)) rfl dX5_speedForFairShare_63 ?_
    refine dp_Vv hF hK hN (c_X0_copyFrom l D G (aB α 1) (aB α 0) RT R _ hD.2.2.1 hD.2.1 (aB_inj hα (by omega)) (aB_ne hα (by omega) (by omega) (by omega)) hbz) (cwV 1 hts gX5_speedForFairShare_X0_copyFrom rfl rfl rfl (by decide +kernel) ⟨Nat.le_of_ble_eq_true rfl, Nat.le_of_ble_eq_true rfl⟩) (dp_recv hK hD.2.2.1.1 rfl) hS (A5_b (by omega)) [] rfl rfl hl.1 (Nat.le_of_ble_eq_true rfl) dX5_speedForFairShare_66 ⟨Nat.le_of_ble_eq_true rfl, Nat.le_of_ble_eq_true rfl⟩ (fun H3 locs hp hzH3 hkH3 hS => ?_)
    obtain ⟨hz9, hB9⟩ := hp
    have hD := hD.trial hα hw hB9 (fun q hq => hq) hkH3
    refine lv_sipush (v := 4700) hx hb dX5_speedForFairShare_69 (by decide) ?_
    refine lv_istore (lv' := [(6, .int 4700), (5, .int 0), (4, .int (-1)), (3, .int (((ld R) * (R (8 + 10 * j))) / (rat R 3))), (2, .int (rat R 3)), (0, .ref (α 0)), (1, .int (nI j))]) hx hb dX5_speedForFairShare_72 hl (by decide) rfl (fun ls hl => ?_)
    have loop74 : ∀ (m9 : Nat) (k : Nat) (v : Int32) (bs : Int32) (ls9 : Int32) (Hh : Heap) (_ : k + m9 = 601) (_ : (fbl R j (ld R * R (8 + 10 * j) / rat R 3) k) = (bs, ls9)) (_ : DP D G α w R (usp R j v) RS kp sv n F len Hh) (locs : List Loc) (_ : va_S (A5 α) s.heap Hh locs) (ls : Array Slot) (_ : lv_has ls 8 [(0, .ref (α 0)), (1, .int (nI j)), (3, .int (ld R * R (8 + 10 * j) / rat R 3)), (4, .int bs), (5, .int ls9), (6, .int (nI (4700 + k)))]), W p l e (headSpec wsX5_speedForFairShare ({ frames := 3, cells := 0, slots := 0, locals := 69 } : Room)).room s m ([.ref (α 0), .int (nI j)] : List Value).toArray below meth c Hh locs 0 0 (MQ below (QI (A5 α) (fun r h => fair R j = r ∧ DW D G α R RS kp sv n F len h)) ([.ref (α 0), .int (nI j)] : List Value).toArray s 0 0 (A5 α)) (F0 m 74 ls []) := by
      intro m9
      induction m9 with
      | zero =>
        intro k v bs ls9 Hh hin hbs hD locs hS ls hl
        refine lv_iload hx hb dX5_speedForFairShare_74 (lv_at hl 5 rfl) ?_
        refine lv_sipush (v := 5300) hx hb dX5_speedForFairShare_76 (by decide) ?_
        refine lv_icmp_gt (tgt := 145) hx hb dX5_speedForFairShare_79 (by decide) (fun c3 => ?_) (fun c3 => absurd (nI_lt (a := 5300) (b := 4700 + k) (by omega) (by omega)) c3)
        refine lv_iload hx hb dX5_speedForFairShare_145 (lv_at hl 3 rfl) ?_
        exact W.iret hx hb hr (fun t ht hW => ⟨⟨bs, Hh, rfl, ⟨by rw [fair, if_neg c1, if_neg c2, show 601 = k by omega, hbs], ⟨w, _, hw, hD⟩⟩, ht⟩, hS.F ht⟩) hS.2.2 dX5_speedForFairShare_147
      | succ m9 ih74 =>
        intro k v bs ls9 Hh hin hbs hD locs hS ls hl
        refine lv_iload hx hb dX5_speedForFairShare_74 (lv_at hl 5 rfl) ?_
        refine lv_sipush (v := 5300) hx hb dX5_speedForFairShare_76 (by decide) ?_
        refine lv_icmp_gt (tgt := 145) hx hb dX5_speedForFairShare_79 (by decide) (fun c4 => absurd c4 (nI_nlt (a := 5300) (b := 4700 + k) (by omega) (by omega))) (fun c4 => ?_)
        refine lv_aload_n hx hb dX5_speedForFairShare_82 rfl (lv_at hl 0 rfl) ?_
        refine dp_get hx hb hts (dp_hin 84 rfl) hown hK hD.1 rfl 1 (by decide) (hts (.fieldLink RX5 16 "DroopBoard" "trial" "LDroopBoard$Board;") (List.mem_of_getElem? (i := 5) rfl)) rfl dX5_speedForFairShare_83 ?_
        refine dp_get hx hb hts (dp_hin 90 rfl) hown hK hD.2.2.1.1 rfl 0 (by decide) (hts (.fieldLink RX5 44 "DroopBoard$Board" "diesels" "[LDroopBoard$Diesel;") (List.mem_of_getElem? (i := 2) rfl)) rfl dX5_speedForFairShare_86 ?_
        refine lv_iload_n hx hb dX5_speedForFairShare_89 rfl (lv_at hl 1 rfl) ?_
        refine dp_aald hx hb hK hD.2.2.1.2.1 1 rfl j rfl hj (by decide) rfl dX5_speedForFairShare_90 ?_
        refine lv_iload hx hb dX5_speedForFairShare_91 (lv_at hl 5 rfl) ?_
        refine dp_put (A := A5 α) (v := .int (nI (4700 + k))) hx hb hts (dp_hin 95 rfl) tyX1 tyX1_ok nmX1 hown hK (hD.2.2.1.2.2.2.2.1 j hj) (A5_b (j := 1) (by omega) _ ⟨4 + j, by omega, rfl⟩) hS rfl 2 (by decide) (hts (.fieldLink RX5 72 "DroopBoard$Diesel" "speed" "I") (List.mem_of_getElem? (i := 6) rfl)) rfl rfl rfl (Nat.le_of_ble_eq_true rfl) dX5_speedForFairShare_93 (fun H4 locs hH4 hzH4 hkH4 hS => ?_)
        have hB9 : BD D G (aB α 1) (upd (usp R j v) (10 + 10 * j) (nI (4700 + k))) H4 := BD.putD (k := 2) (by omega) hD.2.2.1 (aB_inj hα (by omega)) hj hH4 hkH4
        have hD := hD.trial (A := fun q => q = (aB α 1) (4 + j)) hα hw hB9 (fun q hq => ⟨4 + j, by omega, hq⟩) (fun q _ hne => hkH4 q hne)
        rw [usp_usp] at hD
        refine lv_aload_n hx hb dX5_speedForFairShare_96 rfl (lv_at hl 0 rfl) ?_
        refine dp_get hx hb hts (dp_hin 84 rfl) hown hK hD.1 rfl 1 (by decide) (hts (.fieldLink RX5 16 "DroopBoard" "trial" "LDroopBoard$Board;") (List.mem_of_getElem? (i := 5) rfl)) rfl dX5_speedForFairShare_97 ?_
        refine lv_iload_n hx hb dX5_speedForFairShare_100 rfl (lv_at hl 1 rfl) ?_
        refine lv_aload_n hx hb dX5_speedForFairShare_101 rfl (lv_at hl 0 rfl) ?_
        refine dp_get hx hb hts (dp_hin 84 rfl) hown hK hD.1 rfl 1 (by decide) (hts (.fieldLink RX5 16 "DroopBoard" "trial" "LDroopBoard$Board;") (List.mem_of_getElem? (i := 5) rfl)) rfl dX5_speedForFairShare_102 ?_
        refine dp_Vi hF hK hN (c_X0_frequency l D G (aB α 1) (usp R j (nI (4700 + k)))  _ hD.2.2.1 (hms k (by omega))) (cwV 0 hts gX5_speedForFairShare_X0_frequency rfl rfl rfl (by decide +kernel) ⟨Nat.le_of_ble_eq_true rfl, Nat.le_of_ble_eq_true rfl⟩) (dp_recv hK hD.2.2.1.1 rfl) hS nA_i [.int (nI j), .ref ((aB α 1) 0)] rfl rfl hl.1 (Nat.le_of_ble_eq_true rfl) dX5_speedForFairShare_105 ⟨Nat.le_of_ble_eq_true rfl, Nat.le_of_ble_eq_true rfl⟩ (fun rH5 H5 locs hp hzH5 hkH5 hS => ?_)
        obtain ⟨rfl, rfl⟩ := hp
        refine dp_Vi hF hK hN (c_X0_power l D G (aB α 1) (usp R j (nI (4700 + k))) j (fq (usp R j (nI (4700 + k)))) _ hD.2.2.1 hj) (cwV 2 hts gX5_speedForFairShare_X0_power rfl rfl rfl (by decide +kernel) ⟨Nat.le_of_ble_eq_true rfl, Nat.le_of_ble_eq_true rfl⟩) (dp_recv hK hD.2.2.1.1 rfl) hS nA_i [] rfl rfl hl.1 (Nat.le_of_ble_eq_true rfl) dX5_speedForFairShare_108 ⟨Nat.le_of_ble_eq_true rfl, Nat.le_of_ble_eq_true rfl⟩ (fun rH6 H6 locs hp hzH6 hkH6 hS => ?_)
        obtain ⟨rfl, rfl⟩ := hp
        refine lv_iload_n hx hb dX5_speedForFairShare_111 rfl (lv_at hl 2 rfl) ?_
        refine lv_isub hx hb dX5_speedForFairShare_112 ?_
        refine dp_abs (rest := []) hx hb (hml.trans hl.1.symm) hown (hts (.methodLink RX5 331 Lib.Math.abs.name) (List.mem_of_getElem? (i := 7) rfl)) (hts (.static Lib.Math.abs.name) (List.mem_of_getElem? (i := 8) rfl)) (hts (.initialized "java/lang/Math") (List.mem_of_getElem? (i := 9) rfl)) (hts (.code Lib.Math.abs.name Lib.Math.abs.code 1 (some .int)) (List.mem_of_getElem? (i := 10) rfl)) (Nat.le_of_ble_eq_true rfl) (Nat.le_of_ble_eq_true rfl) (Nat.le_of_ble_eq_true rfl) (Nat.le_of_ble_eq_true rfl) dX5_speedForFairShare_113 ?_
        refine lv_istore (lv' := [(7, .int (ab ((pw (usp R j (nI (4700 + k))) j (fq (usp R j (nI (4700 + k))))) - (ld R * R (8 + 10 * j) / rat R 3)))), (0, .ref (α 0)), (1, .int (nI j)), (3, .int (ld R * R (8 + 10 * j) / rat R 3)), (4, .int bs), (5, .int ls9), (6, .int (nI (4700 + k)))]) hx hb dX5_speedForFairShare_116 hl (by decide) rfl (fun ls hl => ?_)
        refine lv_iload hx hb dX5_speedForFairShare_118 (lv_at hl 4 rfl) ?_
        refine lv_iconst (v := (-1)) hx hb dX5_speedForFairShare_120 (by decide) ?_
        refine lv_icmp_eq (tgt := 131) hx hb dX5_speedForFairShare_121 (by decide) (fun c5 => ?_) (fun c5 => ?_)
        · refine lv_iload hx hb dX5_speedForFairShare_131 (lv_at hl 0 rfl) ?_
          refine lv_istore (lv' := [(5, .int (ab ((pw (usp R j (nI (4700 + k))) j (fq (usp R j (nI (4700 + k))))) - (ld R * R (8 + 10 * j) / rat R 3)))), (7, .int (ab ((pw (usp R j (nI (4700 + k))) j (fq (usp R j (nI (4700 + k))))) - (ld R * R (8 + 10 * j) / rat R 3)))), (0, .ref (α 0)), (1, .int (nI j)), (3, .int (ld R * R (8 + 10 * j) / rat R 3)), (4, .int bs), (6, .int (nI (4700 + k)))]) hx hb dX5_speedForFairShare_133 hl (by decide) rfl (fun ls hl => ?_)
          refine lv_iload hx hb dX5_speedForFairShare_135 (lv_at hl 6 rfl) ?_
          refine lv_istore (lv' := [(4, .int (nI (4700 + k))), (5, .int (ab ((pw (usp R j (nI (4700 + k))) j (fq (usp R j (nI (4700 + k))))) - (ld R * R (8 + 10 * j) / rat R 3)))), (7, .int (ab ((pw (usp R j (nI (4700 + k))) j (fq (usp R j (nI (4700 + k))))) - (ld R * R (8 + 10 * j) / rat R 3)))), (0, .ref (α 0)), (1, .int (nI j)), (3, .int (ld R * R (8 + 10 * j) / rat R 3)), (6, .int (nI (4700 + k)))]) hx hb dX5_speedForFairShare_137 hl (by decide) rfl (fun ls hl => ?_)
          refine lv_iinc (v := nI (4700 + (k + 1))) (lv' := [(6, .int (nI (4700 + (k + 1)))), (4, .int (nI (4700 + k))), (5, .int (ab ((pw (usp R j (nI (4700 + k))) j (fq (usp R j (nI (4700 + k))))) - (ld R * R (8 + 10 * j) / rat R 3)))), (7, .int (ab ((pw (usp R j (nI (4700 + k))) j (fq (usp R j (nI (4700 + k))))) - (ld R * R (8 + 10 * j) / rat R 3)))), (0, .ref (α 0)), (1, .int (nI j)), (3, .int (ld R * R (8 + 10 * j) / rat R 3))]) hx hb dX5_speedForFairShare_139 hl (k := 6) rfl (nI_1 (4700 + k)) (by decide) rfl (fun ls hl => ?_)
          refine lv_goto (tgt := 74) hx hb dX5_speedForFairShare_142 (by decide) ?_
          exact ih74 (k + 1) (nI (4700 + k)) (nI (4700 + k)) (ab ((pw (usp R j (nI (4700 + k))) j (fq (usp R j (nI (4700 + k))))) - (ld R * R (8 + 10 * j) / rat R 3))) H4 (by omega) (by rw [fbl, hbs]; exact if_pos c5) hD _ hS _ (lv_sub hl [4, 5, 6, 1, 2, 0] rfl)
        refine lv_iload hx hb dX5_speedForFairShare_124 (lv_at hl 0 rfl) ?_
        refine lv_iload hx hb dX5_speedForFairShare_126 (lv_at hl 5 rfl) ?_
        refine lv_icmp_ge (tgt := 139) hx hb dX5_speedForFairShare_128 (by decide) (fun c6 => ?_) (fun c6 => ?_)
        · refine lv_iinc (v := nI (4700 + (k + 1))) (lv' := [(6, .int (nI (4700 + (k + 1)))), (7, .int (ab ((pw (usp R j (nI (4700 + k))) j (fq (usp R j (nI (4700 + k))))) - (ld R * R (8 + 10 * j) / rat R 3)))), (0, .ref (α 0)), (1, .int (nI j)), (3, .int (ld R * R (8 + 10 * j) / rat R 3)), (4, .int bs), (5, .int ls9)]) hx hb dX5_speedForFairShare_139 hl (k := 6) rfl (nI_1 (4700 + k)) (by decide) rfl (fun ls hl => ?_)
          refine lv_goto (tgt := 74) hx hb dX5_speedForFairShare_142 (by decide) ?_
          exact ih74 (k + 1) (nI (4700 + k)) bs ls9 H4 (by omega) (by rw [fbl, hbs]; exact (if_neg c5).trans (if_neg (Int32.not_lt.mpr c6))) hD _ hS _ (lv_sub hl [2, 3, 4, 5, 6, 0] rfl)
        refine lv_iload hx hb dX5_speedForFairShare_131 (lv_at hl 0 rfl) ?_
        refine lv_istore (lv' := [(5, .int (ab ((pw (usp R j (nI (4700 + k))) j (fq (usp R j (nI (4700 + k))))) - (ld R * R (8 + 10 * j) / rat R 3)))), (7, .int (ab ((pw (usp R j (nI (4700 + k))) j (fq (usp R j (nI (4700 + k))))) - (ld R * R (8 + 10 * j) / rat R 3)))), (0, .ref (α 0)), (1, .int (nI j)), (3, .int (ld R * R (8 + 10 * j) / rat R 3)), (4, .int bs), (6, .int (nI (4700 + k)))]) hx hb dX5_speedForFairShare_133 hl (by decide) rfl (fun ls hl => ?_)
        refine lv_iload hx hb dX5_speedForFairShare_135 (lv_at hl 6 rfl) ?_
        refine lv_istore (lv' := [(4, .int (nI (4700 + k))), (5, .int (ab ((pw (usp R j (nI (4700 + k))) j (fq (usp R j (nI (4700 + k))))) - (ld R * R (8 + 10 * j) / rat R 3)))), (7, .int (ab ((pw (usp R j (nI (4700 + k))) j (fq (usp R j (nI (4700 + k))))) - (ld R * R (8 + 10 * j) / rat R 3)))), (0, .ref (α 0)), (1, .int (nI j)), (3, .int (ld R * R (8 + 10 * j) / rat R 3)), (6, .int (nI (4700 + k)))]) hx hb dX5_speedForFairShare_137 hl (by decide) rfl (fun ls hl => ?_)
        refine lv_iinc (v := nI (4700 + (k + 1))) (lv' := [(6, .int (nI (4700 + (k + 1)))), (4, .int (nI (4700 + k))), (5, .int (ab ((pw (usp R j (nI (4700 + k))) j (fq (usp R j (nI (4700 + k))))) - (ld R * R (8 + 10 * j) / rat R 3)))), (7, .int (ab ((pw (usp R j (nI (4700 + k))) j (fq (usp R j (nI (4700 + k))))) - (ld R * R (8 + 10 * j) / rat R 3)))), (0, .ref (α 0)), (1, .int (nI j)), (3, .int (ld R * R (8 + 10 * j) / rat R 3))]) hx hb dX5_speedForFairShare_139 hl (k := 6) rfl (nI_1 (4700 + k)) (by decide) rfl (fun ls hl => ?_)
        refine lv_goto (tgt := 74) hx hb dX5_speedForFairShare_142 (by decide) ?_
        exact ih74 (k + 1) (nI (4700 + k)) (nI (4700 + k)) (ab ((pw (usp R j (nI (4700 + k))) j (fq (usp R j (nI (4700 + k))))) - (ld R * R (8 + 10 * j) / rat R 3))) H4 (by omega) (by rw [fbl, hbs]; exact (if_neg c5).trans (if_pos (Int32.not_le.mp c6))) hD _ hS _ (lv_sub hl [4, 5, 6, 1, 2, 0] rfl)
    exact loop74 601 0 (R (10 + 10 * j)) ((-1)) 0 H3 rfl rfl (by rw [usp_self]; exact hD) _ hS _ (lv_sub hl [5, 6, 3, 2, 1, 0] rfl)
  refine lv_iconst (v := (-1)) hx hb dX5_speedForFairShare_27 (by decide) ?_
  exact W.iret hx hb hr (fun t ht hW => ⟨⟨-1, s.heap, rfl, ⟨by simp [fair, c1, c2], ⟨w, _, hw, hD⟩⟩, ht⟩, hS.F ht⟩) hS.2.2 dX5_speedForFairShare_28
