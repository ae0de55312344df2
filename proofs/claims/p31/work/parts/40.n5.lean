/-! the class's methods where nothing is thrown -/
theorem is_S {j : Nat} (h : j < 3) : ¬ (if nI j < 0 then (0 : Int32) else if 3 ≤ nI j then 0 else 1) = 0 := by
  rw [if_neg (nI_pos (by omega)), if_neg (show ¬ (3 : Int32) ≤ nI j from nI_ge (b := 3) (by omega) (by omega))]; decide
theorem is_F {j : Nat} (h : j < 4) : ¬ (if nI j < 0 then (0 : Int32) else if 4 ≤ nI j then 0 else 1) = 0 := by
  rw [if_neg (nI_pos (by omega)), if_neg (show ¬ (4 : Int32) ≤ nI j from nI_ge (b := 4) (by omega) (by omega))]; decide
/-- the object: its board has the row R -/
def OB (D : va_G) (G : Nat → ClassId) (α : Nat → Nat) (R : Nat → Int32) (H : Heap) : Prop := ∃ RS kp sv n F len, n ≤ 6 ∧ len ≤ 60 ∧ DW D G α R RS kp sv n F len H
theorem OB.all {D : va_G} {G : Nat → ClassId} {α : Nat → Nat} {R : Nat → Int32} {H H1 : Heap} (h : OB D G α R H) (hk : ∀ k, k < 104 → α k < H.size → H1[α k]? = H[α k]?) : OB D G α R H1 := by
  obtain ⟨RS, kp, sv, n, F, len, h1, h2, h3⟩ := h
  exact ⟨RS, kp, sv, n, F, len, h1, h2, h3.all hk⟩
theorem tcnt_n {R : Nat → Int32} {n k : Nat} (h : k < 11) : tcnt R n (nI k) = tcnt R 0 (nI k) := by
  have : nI k = 0 ∨ nI k = 1 ∨ nI k = 2 ∨ nI k = 3 ∨ nI k = 4 ∨ nI k = 5 ∨ nI k = 6 ∨ nI k = 7 ∨ nI k = 8 ∨ nI k = 9 ∨ nI k = 10 := by
    revert k; decide
  rcases this with e | e | e | e | e | e | e | e | e | e | e <;> rw [e] <;> rfl

set_option maxHeartbeats 600000 in
set_option maxRecDepth 100000 in
theorem n_X5_needSet (l : Launch) (D : va_G) (G : Nat → ClassId) (j : Nat) (H : Heap) (hj : j < 3) : Met l yX5_needSet wsX5_needSet ({ frames := 1, cells := 0, slots := 0, locals := 20 } : Room) (va_Pc [.int (nI j)] (CX D G H)) (QV nA (fun h => H = h)) 0 0 (nA) := by
  refine Met.ofW (cc := cX5_needSet) (maxL := 1) (ret := none) (by decide) rfl ?_
  intro p e s m args below meth c s₁ B0 hml hv
  obtain ⟨rfl, rfl, hK, hN⟩ := hv
  have hx := B0.exec
  have hb := B0.bytes
  have hr := B0.returns
  have hts := atoms_spec (ws := wsX5_needSet) B0.pre
  have hown : s.vm.findClass RX5 = some m.cls := findClass_of_methodNamed B0.named
  have hlocks := B0.notSynchronized
  have hF : CallFix p m c cX5_needSet 1 s ([.int (nI j)] : List Value).toArray wsX5_needSet RX5 := ⟨hx, hb, hml, hown, hts⟩
  have hS : va_S (nA) s.heap s.heap [] := va_S.rf
  have hl := lv_entry ([.int (nI j)]) (n := 1) (Nat.le_of_ble_eq_true rfl)
  rw [lg_entry_eq]
  generalize (lg_sl ([.int (nI j)]) ++ List.replicate (1 - (lg_sl ([.int (nI j)])).length) Slot.unset).toArray = ls at hl ⊢
  have hl : lv_has ls 1 [(0, .int (nI j))] := hl
  refine lv_iload_n hx hb dX5_needSet_0 rfl (lv_at hl 0 rfl) ?_
  refine dp_Si hF hK hN (c_X5_isSet l D G (nI j) _) (va_cwS 1 hts gX5_needSet_X5_isSet rfl rfl rfl (by decide +kernel) ⟨Nat.le_of_ble_eq_true rfl, Nat.le_of_ble_eq_true rfl⟩) hS nA_i [] rfl rfl hl.1 (Nat.le_of_ble_eq_true rfl) dX5_needSet_1 ⟨Nat.le_of_ble_eq_true rfl, Nat.le_of_ble_eq_true rfl⟩ (fun rH1 H1 locs hp hzH1 hkH1 hS => ?_)
  obtain ⟨rfl, rfl⟩ := hp
  refine lv_if_ne (tgt := 18) hx hb dX5_needSet_4 (by decide) (fun c1 => ?_) (fun c1 => absurd c1 (is_S hj))
  exact W.vret hx hb hr (fun t ht hW => ⟨⟨s.heap, rfl, rfl, ht⟩, hS.F ht⟩) hS.2.2 dX5_needSet_18

set_option maxHeartbeats 600000 in
set_option maxRecDepth 100000 in
theorem n_X5_needFeeder (l : Launch) (D : va_G) (G : Nat → ClassId) (j : Nat) (H : Heap) (hj : j < 4) : Met l yX5_needFeeder wsX5_needFeeder ({ frames := 1, cells := 0, slots := 0, locals := 20 } : Room) (va_Pc [.int (nI j)] (CX D G H)) (QV nA (fun h => H = h)) 0 0 (nA) := by
  refine Met.ofW (cc := cX5_needFeeder) (maxL := 1) (ret := none) (by decide) rfl ?_
  intro p e s m args below meth c s₁ B0 hml hv
  obtain ⟨rfl, rfl, hK, hN⟩ := hv
  have hx := B0.exec
  have hb := B0.bytes
  have hr := B0.returns
  have hts := atoms_spec (ws := wsX5_needFeeder) B0.pre
  have hown : s.vm.findClass RX5 = some m.cls := findClass_of_methodNamed B0.named
  have hlocks := B0.notSynchronized
  have hF : CallFix p m c cX5_needFeeder 1 s ([.int (nI j)] : List Value).toArray wsX5_needFeeder RX5 := ⟨hx, hb, hml, hown, hts⟩
  have hS : va_S (nA) s.heap s.heap [] := va_S.rf
  have hl := lv_entry ([.int (nI j)]) (n := 1) (Nat.le_of_ble_eq_true rfl)
  rw [lg_entry_eq]
  generalize (lg_sl ([.int (nI j)]) ++ List.replicate (1 - (lg_sl ([.int (nI j)])).length) Slot.unset).toArray = ls at hl ⊢
  have hl : lv_has ls 1 [(0, .int (nI j))] := hl
  refine lv_iload_n hx hb dX5_needFeeder_0 rfl (lv_at hl 0 rfl) ?_
  refine dp_Si hF hK hN (c_X5_isFeeder l D G (nI j) _) (va_cwS 1 hts gX5_needFeeder_X5_isFeeder rfl rfl rfl (by decide +kernel) ⟨Nat.le_of_ble_eq_true rfl, Nat.le_of_ble_eq_true rfl⟩) hS nA_i [] rfl rfl hl.1 (Nat.le_of_ble_eq_true rfl) dX5_needFeeder_1 ⟨Nat.le_of_ble_eq_true rfl, Nat.le_of_ble_eq_true rfl⟩ (fun rH1 H1 locs hp hzH1 hkH1 hS => ?_)
  obtain ⟨rfl, rfl⟩ := hp
  refine lv_if_ne (tgt := 18) hx hb dX5_needFeeder_4 (by decide) (fun c1 => ?_) (fun c1 => absurd c1 (is_F hj))
  exact W.vret hx hb hr (fun t ht hW => ⟨⟨s.heap, rfl, rfl, ht⟩, hS.F ht⟩) hS.2.2 dX5_needFeeder_18

set_option maxHeartbeats 600000 in
set_option maxRecDepth 100000 in
theorem n_X5_needSetting (l : Launch) (D : va_G) (G : Nat → ClassId) (j : Nat) (H : Heap) (hj : j < 4) : Met l yX5_needSetting wsX5_needSetting ({ frames := 0, cells := 0, slots := 0, locals := 0 } : Room) (va_Pc [.int (nI j)] (CX D G H)) (QV nA (fun h => H = h)) 0 0 (nA) := by
  refine Met.ofW (cc := cX5_needSetting) (maxL := 1) (ret := none) (by decide) rfl ?_
  intro p e s m args below meth c s₁ B0 hml hv
  obtain ⟨rfl, rfl, hK, hN⟩ := hv
  have hx := B0.exec
  have hb := B0.bytes
  have hr := B0.returns
  have hts := atoms_spec (ws := wsX5_needSetting) B0.pre
  have hown : s.vm.findClass RX5 = some m.cls := findClass_of_methodNamed B0.named
  have hlocks := B0.notSynchronized
  have hF : CallFix p m c cX5_needSetting 1 s ([.int (nI j)] : List Value).toArray wsX5_needSetting RX5 := ⟨hx, hb, hml, hown, hts⟩
  have hS : va_S (nA) s.heap s.heap [] := va_S.rf
  have hl := lv_entry ([.int (nI j)]) (n := 1) (Nat.le_of_ble_eq_true rfl)
  rw [lg_entry_eq]
  generalize (lg_sl ([.int (nI j)]) ++ List.replicate (1 - (lg_sl ([.int (nI j)])).length) Slot.unset).toArray = ls at hl ⊢
  have hl : lv_has ls 1 [(0, .int (nI j))] := hl
  refine lv_iload_n hx hb dX5_needSetting_0 rfl (lv_at hl 0 rfl) ?_
  refine lv_if_lt (tgt := 9) hx hb dX5_needSetting_1 (by decide) (fun c1 => absurd c1 (nI_pos (by omega))) (fun c1 => ?_)
  refine lv_iload_n hx hb dX5_needSetting_4 rfl (lv_at hl 0 rfl) ?_
  refine lv_iconst (v := 4) hx hb dX5_needSetting_5 (by decide) ?_
  refine lv_icmp_lt (tgt := 20) hx hb dX5_needSetting_6 (by decide) (fun c2 => ?_) (fun c2 => absurd (show nI j < 4 from nI_lt (b := 4) hj (by decide)) c2)
  exact W.vret hx hb hr (fun t ht hW => ⟨⟨s.heap, rfl, rfl, ht⟩, hS.F ht⟩) hS.2.2 dX5_needSetting_20

set_option maxHeartbeats 600000 in
set_option maxRecDepth 100000 in
theorem n_X5_needRange (l : Launch) (D : va_G) (G : Nat → ClassId) (v a b : Int32) (H : Heap) (hv : ¬ v < a ∧ ¬ b < v) : Met l yX5_needRange wsX5_needRange ({ frames := 0, cells := 0, slots := 0, locals := 0 } : Room) (va_Pc [.int v, .int a, .int b] (CX D G H)) (QV nA (fun h => H = h)) 0 0 (nA) := by
  refine Met.ofW (cc := cX5_needRange) (maxL := 3) (ret := none) (by decide) rfl ?_
  intro p e s m args below meth c s₁ B0 hml hv
  obtain ⟨rfl, rfl, hK, hN⟩ := hv
  have hx := B0.exec
  have hb := B0.bytes
  have hr := B0.returns
  have hts := atoms_spec (ws := wsX5_needRange) B0.pre
  have hown : s.vm.findClass RX5 = some m.cls := findClass_of_methodNamed B0.named
  have hlocks := B0.notSynchronized
  have hF : CallFix p m c cX5_needRange 3 s ([.int v, .int a, .int b] : List Value).toArray wsX5_needRange RX5 := ⟨hx, hb, hml, hown, hts⟩
  have hS : va_S (nA) s.heap s.heap [] := va_S.rf
  have hl := lv_entry ([.int v, .int a, .int b]) (n := 3) (Nat.le_of_ble_eq_true rfl)
  rw [lg_entry_eq]
  generalize (lg_sl ([.int v, .int a, .int b]) ++ List.replicate (3 - (lg_sl ([.int v, .int a, .int b])).length) Slot.unset).toArray = ls at hl ⊢
  have hl : lv_has ls 3 [(0, .int v), (1, .int a), (2, .int b)] := hl
  refine lv_iload_n hx hb dX5_needRange_0 rfl (lv_at hl 0 rfl) ?_
  refine lv_iload_n hx hb dX5_needRange_1 rfl (lv_at hl 1 rfl) ?_
  refine lv_icmp_lt (tgt := 10) hx hb dX5_needRange_2 (by decide) (fun c1 => absurd c1 hv.1) (fun c1 => ?_)
  refine lv_iload_n hx hb dX5_needRange_5 rfl (lv_at hl 0 rfl) ?_
  refine lv_iload_n hx hb dX5_needRange_6 rfl (lv_at hl 2 rfl) ?_
  refine lv_icmp_le (tgt := 21) hx hb dX5_needRange_7 (by decide) (fun c2 => ?_) (fun c2 => absurd (Int32.not_lt.mp hv.2) c2)
  exact W.vret hx hb hr (fun t ht hW => ⟨⟨s.heap, rfl, rfl, ht⟩, hS.F ht⟩) hS.2.2 dX5_needRange_21

set_option maxHeartbeats 600000 in
set_option maxRecDepth 100000 in
theorem n_X5_build (l : Launch) (D : va_G) (G : Nat → ClassId) (α : Nat → Nat) (R : Nat → Int32) (j : Nat) (rt dr : Int32) (H : Heap) (hα : inj 115 α) (hO : OB D G α R H) (hg : gd R) (hj : j < 3) (h1 : ¬ rt < 100 ∧ ¬ 500 < rt) (h2 : ¬ dr < 100 ∧ ¬ 400 < dr) (h0 : R (11 + 10 * j) = 0) : Met l yX5_build wsX5_build ({ frames := 3, cells := 0, slots := 0, locals := 64 } : Room) (va_Pc [.ref (α 0), .int (nI j), .int rt, .int dr] (CX D G H)) (QI (A5 α) (fun r h => R (8 + 10 * j) = r ∧ OB D G α (upd (upd R (8 + 10 * j) rt) (9 + 10 * j) dr) h)) 0 0 (A5 α) := by
  refine Met.ofW (cc := cX5_build) (maxL := 6) (ret := (some .int)) (by decide) rfl ?_
  intro p e s m args below meth c s₁ B0 hml hv
  obtain ⟨rfl, rfl, hK, hN⟩ := hv
  have hx := B0.exec
  have hb := B0.bytes
  have hr := B0.returns
  have hts := atoms_spec (ws := wsX5_build) B0.pre
  have hown : s.vm.findClass RX5 = some m.cls := findClass_of_methodNamed B0.named
  have hlocks := B0.notSynchronized
  have hF : CallFix p m c cX5_build 6 s ([.ref (α 0), .int (nI j), .int rt, .int dr] : List Value).toArray wsX5_build RX5 := ⟨hx, hb, hml, hown, hts⟩
  have hS : va_S (A5 α) s.heap s.heap [] := va_S.rf
  have hl := lv_entry ([.ref (α 0), .int (nI j), .int rt, .int dr]) (n := 6) (Nat.le_of_ble_eq_true rfl)
  rw [lg_entry_eq]
  generalize (lg_sl ([.ref (α 0), .int (nI j), .int rt, .int dr]) ++ List.replicate (6 - (lg_sl ([.ref (α 0), .int (nI j), .int rt, .int dr])).length) Slot.unset).toArray = ls at hl ⊢
  have hl : lv_has ls 6 [(0, .ref (α 0)), (1, .int (nI j)), (2, .int rt), (3, .int dr)] := hl
  obtain ⟨RS, kp, sv, n, F, len, hn6, hl6, w, RT, hw, hD⟩ := hO
  have hbz := gd_bz hg
  have hm := gd_mono hg
  refine lv_iload_n hx hb dX5_build_0 rfl (lv_at hl 1 rfl) ?_
  refine dp_Sv hF hK hN (n_X5_needSet l D G j _ hj) (va_cwS 1 hts gX5_build_X5_needSet rfl rfl rfl (by decide +kernel) ⟨Nat.le_of_ble_eq_true rfl, Nat.le_of_ble_eq_true rfl⟩) hS nA_i [] rfl rfl hl.1 (Nat.le_of_ble_eq_true rfl) dX5_build_1 ⟨Nat.le_of_ble_eq_true rfl, Nat.le_of_ble_eq_true rfl⟩ (fun H1 locs hp hzH1 hkH1 hS => ?_)
  obtain rfl := hp
  refine lv_iload_n hx hb dX5_build_4 rfl (lv_at hl 2 rfl) ?_
  refine lv_bipush (v := 100) hx hb dX5_build_5 (by decide) ?_
  refine lv_sipush (v := 500) hx hb dX5_build_7 (by decide) ?_
  refine dp_Sv hF hK hN (n_X5_needRange l D G rt 100 500 _ h1) (va_cwS 3 hts gX5_build_X5_needRange rfl rfl rfl (by decide +kernel) ⟨Nat.le_of_ble_eq_true rfl, Nat.le_of_ble_eq_true rfl⟩) hS nA_i [] rfl rfl hl.1 (Nat.le_of_ble_eq_true rfl) dX5_build_10 ⟨Nat.le_of_ble_eq_true rfl, Nat.le_of_ble_eq_true rfl⟩ (fun H2 locs hp hzH2 hkH2 hS => ?_)
  obtain rfl := hp
  refine lv_iload_n hx hb dX5_build_13 rfl (lv_at hl 3 rfl) ?_
  refine lv_bipush (v := 100) hx hb dX5_build_14 (by decide) ?_
  refine lv_sipush (v := 400) hx hb dX5_build_16 (by decide) ?_
  refine dp_Sv hF hK hN (n_X5_needRange l D G dr 100 400 _ h2) (va_cwS 3 hts gX5_build_X5_needRange rfl rfl rfl (by decide +kernel) ⟨Nat.le_of_ble_eq_true rfl, Nat.le_of_ble_eq_true rfl⟩) hS nA_i [] rfl rfl hl.1 (Nat.le_of_ble_eq_true rfl) dX5_build_19 ⟨Nat.le_of_ble_eq_true rfl, Nat.le_of_ble_eq_true rfl⟩ (fun H3 locs hp hzH3 hkH3 hS => ?_)
  obtain rfl := hp
  refine lv_aload_n hx hb dX5_build_22 rfl (lv_at hl 0 rfl) ?_
  refine dp_get hx hb hts (dp_hin 67 rfl) hown hK hD.1 rfl 0 (by decide) (hts (.fieldLink RX5 10 "DroopBoard" "board" "LDroopBoard$Board;") (List.mem_of_getElem? (i := 3) rfl)) rfl dX5_build_23 ?_
  refine dp_get hx hb hts (dp_hin 73 rfl) hown hK hD.2.1.1 rfl 0 (by decide) (hts (.fieldLink RX5 44 "DroopBoard$Board" "diesels" "[LDroopBoard$Diesel;") (List.mem_of_getElem? (i := 4) rfl)) rfl dX5_build_26 ?_
  refine lv_iload_n hx hb dX5_build_29 rfl (lv_at hl 1 rfl) ?_
  refine dp_aald hx hb hK hD.2.1.2.1 1 rfl j rfl hj (by decide) rfl dX5_build_30 ?_
  refine lv_astore (lv' := [(4, .ref ((aB α 0) (4 + j))), (0, .ref (α 0)), (1, .int (nI j)), (2, .int rt), (3, .int dr)]) hx hb dX5_build_31 hl (by decide) rfl (fun ls hl => ?_)
  refine lv_aload hx hb dX5_build_33 (lv_at hl 0 rfl) ?_
  refine dp_get hx hb hts (dp_hin 78 rfl) hown hK (hD.2.1.2.2.2.2.1 j hj) rfl 3 (by decide) (hts (.fieldLink RX5 48 "DroopBoard$Diesel" "runs" "Z") (List.mem_of_getElem? (i := 5) rfl)) rfl dX5_build_35 ?_
  refine lv_if_eq (tgt := 51) hx hb dX5_build_38 (by decide) (fun c1 => ?_) (fun c1 => absurd h0 c1)
  refine lv_aload_n hx hb dX5_build_51 rfl (lv_at hl 1 rfl) ?_
  refine dp_get hx hb hts (dp_hin 67 rfl) hown hK hD.1 rfl 4 (by decide) (hts (.fieldLink RX5 25 "DroopBoard" "history" "LDroopBoard$History;") (List.mem_of_getElem? (i := 6) rfl)) rfl dX5_build_52 ?_
  refine lv_aload_n hx hb dX5_build_55 rfl (lv_at hl 1 rfl) ?_
  refine dp_get hx hb hts (dp_hin 67 rfl) hown hK hD.1 rfl 0 (by decide) (hts (.fieldLink RX5 10 "DroopBoard" "board" "LDroopBoard$Board;") (List.mem_of_getElem? (i := 3) rfl)) rfl dX5_build_56 ?_
  refine dp_Vv hF hK hN (c_X3_save l D G (hh α) (sB α) w sv n (aB α 0) R _ hD.2.2.2.2.1 (hap_a hα) hw hD.2.1 (sB_b hα) hbz (hh_b hα) hn6) (cwV 1 hts gX5_build_X3_save rfl rfl rfl (by decide +kernel) ⟨Nat.le_of_ble_eq_true rfl, Nat.le_of_ble_eq_true rfl⟩) (dp_recv hK hD.2.2.2.2.1.1 rfl) hS A5_h [] rfl rfl hl.1 (Nat.le_of_ble_eq_true rfl) dX5_build_59 ⟨Nat.le_of_ble_eq_true rfl, Nat.le_of_ble_eq_true rfl⟩ (fun H4 locs hp hzH4 hkH4 hS => ?_)
  obtain ⟨hz9, w, hw, hI9⟩ := hp
  have hD := hD.hist hα hI9 (fun q hq => hq) hkH4
  refine lv_aload hx hb dX5_build_62 (lv_at hl 0 rfl) ?_
  refine dp_get hx hb hts (dp_hin 78 rfl) hown hK (hD.2.1.2.2.2.2.1 j hj) rfl 0 (by decide) (hts (.fieldLink RX5 65 "DroopBoard$Diesel" "rating" "I") (List.mem_of_getElem? (i := 7) rfl)) rfl dX5_build_64 ?_
  refine lv_istore (lv' := [(5, .int (R (8 + 10 * j))), (4, .ref ((aB α 0) (4 + j))), (0, .ref (α 0)), (1, .int (nI j)), (2, .int rt), (3, .int dr)]) hx hb dX5_build_67 hl (by decide) rfl (fun ls hl => ?_)
  refine lv_aload hx hb dX5_build_69 (lv_at hl 1 rfl) ?_
  refine lv_iload_n hx hb dX5_build_71 rfl (lv_at hl 4 rfl) ?_
  refine dp_put (A := A5 α) (v := .int rt) hx hb hts (dp_hin 78 rfl) tyX1 tyX1_ok nmX1 hown hK (hD.2.1.2.2.2.2.1 j hj) (A5_b (j := 0) (by omega) _ ⟨4 + j, by omega, rfl⟩) hS rfl 0 (by decide) (hts (.fieldLink RX5 65 "DroopBoard$Diesel" "rating" "I") (List.mem_of_getElem? (i := 7) rfl)) rfl rfl rfl (Nat.le_of_ble_eq_true rfl) dX5_build_72 (fun H5 locs hH5 hzH5 hkH5 hS => ?_)
  have hB9 : BD D G (aB α 0) (upd R (8 + 10 * j) rt) H5 := BD.putD (k := 0) (by omega) hD.2.1 (aB_inj hα (by omega)) hj hH5 hkH5
  have hD := hD.board (A := fun q => q = (aB α 0) (4 + j)) hα hw hB9 (fun q hq => ⟨4 + j, by omega, hq⟩) (fun q _ hne => hkH5 q hne)
  refine lv_aload hx hb dX5_build_75 (lv_at hl 1 rfl) ?_
  refine lv_iload_n hx hb dX5_build_77 rfl (lv_at hl 5 rfl) ?_
  refine dp_put (A := A5 α) (v := .int dr) hx hb hts (dp_hin 78 rfl) tyX1 tyX1_ok nmX1 hown hK (hD.2.1.2.2.2.2.1 j hj) (A5_b (j := 0) (by omega) _ ⟨4 + j, by omega, rfl⟩) hS rfl 1 (by decide) (hts (.fieldLink RX5 69 "DroopBoard$Diesel" "droop" "I") (List.mem_of_getElem? (i := 8) rfl)) rfl rfl rfl (Nat.le_of_ble_eq_true rfl) dX5_build_78 (fun H6 locs hH6 hzH6 hkH6 hS => ?_)
  have hB9 : BD D G (aB α 0) (upd (upd R (8 + 10 * j) rt) (9 + 10 * j) dr) H6 := BD.putD (k := 1) (by omega) hD.2.1 (aB_inj hα (by omega)) hj hH6 hkH6
  have hD := hD.board (A := fun q => q = (aB α 0) (4 + j)) hα hw hB9 (fun q hq => ⟨4 + j, by omega, hq⟩) (fun q _ hne => hkH6 q hne)
  refine lv_iload hx hb dX5_build_81 (lv_at hl 0 rfl) ?_
  exact W.iret hx hb hr (fun t ht hW => ⟨⟨R (8 + 10 * j), H6, rfl, ⟨rfl, _, _, _, _, _, _, (svn_le hn6), hl6, w, _, hw, hD⟩, ht⟩, hS.F ht⟩) hS.2.2 dX5_build_83

set_option maxHeartbeats 600000 in
set_option maxRecDepth 100000 in
theorem n_X5_speed (l : Launch) (D : va_G) (G : Nat → ClassId) (α : Nat → Nat) (R : Nat → Int32) (j : Nat) (v : Int32) (H : Heap) (hα : inj 115 α) (hO : OB D G α R H) (hg : gd R) (hj : j < 3) (h1 : ¬ v < 4700 ∧ ¬ 5300 < v) : Met l yX5_speed wsX5_speed ({ frames := 3, cells := 0, slots := 0, locals := 64 } : Room) (va_Pc [.ref (α 0), .int (nI j), .int v] (CX D G H)) (QI (A5 α) (fun r h => R (10 + 10 * j) = r ∧ OB D G α (usp R j v) h)) 0 0 (A5 α) := by
  refine Met.ofW (cc := cX5_speed) (maxL := 4) (ret := (some .int)) (by decide) rfl ?_
  intro p e s m args below meth c s₁ B0 hml hv
  obtain ⟨rfl, rfl, hK, hN⟩ := hv
  have hx := B0.exec
  have hb := B0.bytes
  have hr := B0.returns
  have hts := atoms_spec (ws := wsX5_speed) B0.pre
  have hown : s.vm.findClass RX5 = some m.cls := findClass_of_methodNamed B0.named
  have hlocks := B0.notSynchronized
  have hF : CallFix p m c cX5_speed 4 s ([.ref (α 0), .int (nI j), .int v] : List Value).toArray wsX5_speed RX5 := ⟨hx, hb, hml, hown, hts⟩
  have hS : va_S (A5 α) s.heap s.heap [] := va_S.rf
  have hl := lv_entry ([.ref (α 0), .int (nI j), .int v]) (n := 4) (Nat.le_of_ble_eq_true rfl)
  rw [lg_entry_eq]
  generalize (lg_sl ([.ref (α 0), .int (nI j), .int v]) ++ List.replicate (4 - (lg_sl ([.ref (α 0), .int (nI j), .int v])).length) Slot.unset).toArray = ls at hl ⊢
  have hl : lv_has ls 4 [(0, .ref (α 0)), (1, .int (nI j)), (2, .int v)] := hl
  obtain ⟨RS, kp, sv, n, F, len, hn6, hl6, w, RT, hw, hD⟩ := hO
  have hbz := gd_bz hg
  have hm := gd_mono hg
  refine lv_iload_n hx hb dX5_speed_0 rfl (lv_at hl 1 rfl) ?_
  refine dp_Sv hF hK hN (n_X5_needSet l D G j _ hj) (va_cwS 1 hts gX5_speed_X5_needSet rfl rfl rfl (by decide +kernel) ⟨Nat.le_of_ble_eq_true rfl, Nat.le_of_ble_eq_true rfl⟩) hS nA_i [] rfl rfl hl.1 (Nat.le_of_ble_eq_true rfl) dX5_speed_1 ⟨Nat.le_of_ble_eq_true rfl, Nat.le_of_ble_eq_true rfl⟩ (fun H1 locs hp hzH1 hkH1 hS => ?_)
  obtain rfl := hp
  refine lv_iload_n hx hb dX5_speed_4 rfl (lv_at hl 2 rfl) ?_
  refine lv_sipush (v := 4700) hx hb dX5_speed_5 (by decide) ?_
  refine lv_sipush (v := 5300) hx hb dX5_speed_8 (by decide) ?_
  refine dp_Sv hF hK hN (n_X5_needRange l D G v 4700 5300 _ h1) (va_cwS 3 hts gX5_speed_X5_needRange rfl rfl rfl (by decide +kernel) ⟨Nat.le_of_ble_eq_true rfl, Nat.le_of_ble_eq_true rfl⟩) hS nA_i [] rfl rfl hl.1 (Nat.le_of_ble_eq_true rfl) dX5_speed_11 ⟨Nat.le_of_ble_eq_true rfl, Nat.le_of_ble_eq_true rfl⟩ (fun H2 locs hp hzH2 hkH2 hS => ?_)
  obtain rfl := hp
  refine lv_aload_n hx hb dX5_speed_14 rfl (lv_at hl 0 rfl) ?_
  refine dp_get hx hb hts (dp_hin 63 rfl) hown hK hD.1 rfl 4 (by decide) (hts (.fieldLink RX5 25 "DroopBoard" "history" "LDroopBoard$History;") (List.mem_of_getElem? (i := 1) rfl)) rfl dX5_speed_15 ?_
  refine lv_aload_n hx hb dX5_speed_18 rfl (lv_at hl 0 rfl) ?_
  refine dp_get hx hb hts (dp_hin 63 rfl) hown hK hD.1 rfl 0 (by decide) (hts (.fieldLink RX5 10 "DroopBoard" "board" "LDroopBoard$Board;") (List.mem_of_getElem? (i := 2) rfl)) rfl dX5_speed_19 ?_
  refine dp_Vv hF hK hN (c_X3_save l D G (hh α) (sB α) w sv n (aB α 0) R _ hD.2.2.2.2.1 (hap_a hα) hw hD.2.1 (sB_b hα) hbz (hh_b hα) hn6) (cwV 1 hts gX5_speed_X3_save rfl rfl rfl (by decide +kernel) ⟨Nat.le_of_ble_eq_true rfl, Nat.le_of_ble_eq_true rfl⟩) (dp_recv hK hD.2.2.2.2.1.1 rfl) hS A5_h [] rfl rfl hl.1 (Nat.le_of_ble_eq_true rfl) dX5_speed_22 ⟨Nat.le_of_ble_eq_true rfl, Nat.le_of_ble_eq_true rfl⟩ (fun H3 locs hp hzH3 hkH3 hS => ?_)
  obtain ⟨hz9, w, hw, hI9⟩ := hp
  have hD := hD.hist hα hI9 (fun q hq => hq) hkH3
  refine lv_aload_n hx hb dX5_speed_25 rfl (lv_at hl 0 rfl) ?_
  refine dp_get hx hb hts (dp_hin 63 rfl) hown hK hD.1 rfl 0 (by decide) (hts (.fieldLink RX5 10 "DroopBoard" "board" "LDroopBoard$Board;") (List.mem_of_getElem? (i := 2) rfl)) rfl dX5_speed_26 ?_
  refine dp_get hx hb hts (dp_hin 69 rfl) hown hK hD.2.1.1 rfl 0 (by decide) (hts (.fieldLink RX5 44 "DroopBoard$Board" "diesels" "[LDroopBoard$Diesel;") (List.mem_of_getElem? (i := 3) rfl)) rfl dX5_speed_29 ?_
  refine lv_iload_n hx hb dX5_speed_32 rfl (lv_at hl 1 rfl) ?_
  refine dp_aald hx hb hK hD.2.1.2.1 1 rfl j rfl hj (by decide) rfl dX5_speed_33 ?_
  refine dp_get hx hb hts (dp_hin 74 rfl) hown hK (hD.2.1.2.2.2.2.1 j hj) rfl 2 (by decide) (hts (.fieldLink RX5 72 "DroopBoard$Diesel" "speed" "I") (List.mem_of_getElem? (i := 4) rfl)) rfl dX5_speed_34 ?_
  refine lv_istore_n (lv' := [(3, .int (R (10 + 10 * j))), (0, .ref (α 0)), (1, .int (nI j)), (2, .int v)]) hx hb dX5_speed_37 rfl hl (by decide) rfl (fun ls hl => ?_)
  refine lv_aload_n hx hb dX5_speed_38 rfl (lv_at hl 1 rfl) ?_
  refine dp_get hx hb hts (dp_hin 63 rfl) hown hK hD.1 rfl 0 (by decide) (hts (.fieldLink RX5 10 "DroopBoard" "board" "LDroopBoard$Board;") (List.mem_of_getElem? (i := 2) rfl)) rfl dX5_speed_39 ?_
  refine dp_get hx hb hts (dp_hin 69 rfl) hown hK hD.2.1.1 rfl 0 (by decide) (hts (.fieldLink RX5 44 "DroopBoard$Board" "diesels" "[LDroopBoard$Diesel;") (List.mem_of_getElem? (i := 3) rfl)) rfl dX5_speed_42 ?_
  refine lv_iload_n hx hb dX5_speed_45 rfl (lv_at hl 2 rfl) ?_
  refine dp_aald hx hb hK hD.2.1.2.1 1 rfl j rfl hj (by decide) rfl dX5_speed_46 ?_
  refine lv_iload_n hx hb dX5_speed_47 rfl (lv_at hl 3 rfl) ?_
  refine dp_put (A := A5 α) (v := .int v) hx hb hts (dp_hin 74 rfl) tyX1 tyX1_ok nmX1 hown hK (hD.2.1.2.2.2.2.1 j hj) (A5_b (j := 0) (by omega) _ ⟨4 + j, by omega, rfl⟩) hS rfl 2 (by decide) (hts (.fieldLink RX5 72 "DroopBoard$Diesel" "speed" "I") (List.mem_of_getElem? (i := 4) rfl)) rfl rfl rfl (Nat.le_of_ble_eq_true rfl) dX5_speed_48 (fun H4 locs hH4 hzH4 hkH4 hS => ?_)
  have hB9 : BD D G (aB α 0) (upd R (10 + 10 * j) v) H4 := BD.putD (k := 2) (by omega) hD.2.1 (aB_inj hα (by omega)) hj hH4 hkH4
  have hD := hD.board (A := fun q => q = (aB α 0) (4 + j)) hα hw hB9 (fun q hq => ⟨4 + j, by omega, hq⟩) (fun q _ hne => hkH4 q hne)
  refine lv_iload_n hx hb dX5_speed_51 rfl (lv_at hl 0 rfl) ?_
  exact W.iret hx hb hr (fun t ht hW => ⟨⟨R (10 + 10 * j), H4, rfl, ⟨rfl, _, _, _, _, _, _, (svn_le hn6), hl6, w, _, hw, hD⟩, ht⟩, hS.F ht⟩) hS.2.2 dX5_speed_52

set_option maxHeartbeats 600000 in
set_option maxRecDepth 100000 in
theorem n_X5_run (l : Launch) (D : va_G) (G : Nat → ClassId) (α : Nat → Nat) (R : Nat → Int32) (j : Nat) (H : Heap) (hα : inj 115 α) (hO : OB D G α R H) (hg : gd R) (hj : j < 3) (h0 : R (11 + 10 * j) = 0) : Met l yX5_run wsX5_run ({ frames := 3, cells := 0, slots := 0, locals := 64 } : Room) (va_Pc [.ref (α 0), .int (nI j)] (CX D G H)) (QI (A5 α) (fun r h => osum (rst (upd R (11 + 10 * j) 1) j) 11 3 = r ∧ OB D G α (rst (upd R (11 + 10 * j) 1) j) h)) 0 0 (A5 α) := by
  refine Met.ofW (cc := cX5_run) (maxL := 2) (ret := (some .int)) (by decide) rfl ?_
  intro p e s m args below meth c s₁ B0 hml hv
  obtain ⟨rfl, rfl, hK, hN⟩ := hv
  have hx := B0.exec
  have hb := B0.bytes
  have hr := B0.returns
  have hts := atoms_spec (ws := wsX5_run) B0.pre
  have hown : s.vm.findClass RX5 = some m.cls := findClass_of_methodNamed B0.named
  have hlocks := B0.notSynchronized
  have hF : CallFix p m c cX5_run 2 s ([.ref (α 0), .int (nI j)] : List Value).toArray wsX5_run RX5 := ⟨hx, hb, hml, hown, hts⟩
  have hS : va_S (A5 α) s.heap s.heap [] := va_S.rf
  have hl := lv_entry ([.ref (α 0), .int (nI j)]) (n := 2) (Nat.le_of_ble_eq_true rfl)
  rw [lg_entry_eq]
  generalize (lg_sl ([.ref (α 0), .int (nI j)]) ++ List.replicate (2 - (lg_sl ([.ref (α 0), .int (nI j)])).length) Slot.unset).toArray = ls at hl ⊢
  have hl : lv_has ls 2 [(0, .ref (α 0)), (1, .int (nI j))] := hl
  obtain ⟨RS, kp, sv, n, F, len, hn6, hl6, w, RT, hw, hD⟩ := hO
  have hbz := gd_bz hg
  have hm := gd_mono hg
  refine lv_iload_n hx hb dX5_run_0 rfl (lv_at hl 1 rfl) ?_
  refine dp_Sv hF hK hN (n_X5_needSet l D G j _ hj) (va_cwS 1 hts gX5_run_X5_needSet rfl rfl rfl (by decide +kernel) ⟨Nat.le_of_ble_eq_true rfl, Nat.le_of_ble_eq_true rfl⟩) hS nA_i [] rfl rfl hl.1 (Nat.le_of_ble_eq_true rfl) dX5_run_1 ⟨Nat.le_of_ble_eq_true rfl, Nat.le_of_ble_eq_true rfl⟩ (fun H1 locs hp hzH1 hkH1 hS => ?_)
  obtain rfl := hp
  refine lv_aload_n hx hb dX5_run_4 rfl (lv_at hl 0 rfl) ?_
  refine dp_get hx hb hts (dp_hin 78 rfl) hown hK hD.1 rfl 0 (by decide) (hts (.fieldLink RX5 10 "DroopBoard" "board" "LDroopBoard$Board;") (List.mem_of_getElem? (i := 3) rfl)) rfl dX5_run_5 ?_
  refine dp_get hx hb hts (dp_hin 84 rfl) hown hK hD.2.1.1 rfl 0 (by decide) (hts (.fieldLink RX5 44 "DroopBoard$Board" "diesels" "[LDroopBoard$Diesel;") (List.mem_of_getElem? (i := 4) rfl)) rfl dX5_run_8 ?_
  refine lv_iload_n hx hb dX5_run_11 rfl (lv_at hl 1 rfl) ?_
  refine dp_aald hx hb hK hD.2.1.2.1 1 rfl j rfl hj (by decide) rfl dX5_run_12 ?_
  refine dp_Vi hF hK hN (c_X1_canStart l D G (aB α 0 (4 + j)) j R _ (hD.2.1.2.2.2.2.1 j hj)) (cwV 0 hts gX5_run_X1_canStart rfl rfl rfl (by decide +kernel) ⟨Nat.le_of_ble_eq_true rfl, Nat.le_of_ble_eq_true rfl⟩) (dp_recv hK (hD.2.1.2.2.2.2.1 j hj) rfl) hS nA_i [] rfl rfl hl.1 (Nat.le_of_ble_eq_true rfl) dX5_run_13 ⟨Nat.le_of_ble_eq_true rfl, Nat.le_of_ble_eq_true rfl⟩ (fun rH2 H2 locs hp hzH2 hkH2 hS => ?_)
  obtain ⟨rfl, rfl⟩ := hp
  refine lv_if_ne (tgt := 29) hx hb dX5_run_16 (by decide) (fun c1 => ?_) (fun c1 => absurd c1 (by rw [if_pos h0]; decide))
  refine lv_aload_n hx hb dX5_run_29 rfl (lv_at hl 0 rfl) ?_
  refine dp_get hx hb hts (dp_hin 78 rfl) hown hK hD.1 rfl 4 (by decide) (hts (.fieldLink RX5 25 "DroopBoard" "history" "LDroopBoard$History;") (List.mem_of_getElem? (i := 5) rfl)) rfl dX5_run_30 ?_
  refine lv_aload_n hx hb dX5_run_33 rfl (lv_at hl 0 rfl) ?_
  refine dp_get hx hb hts (dp_hin 78 rfl) hown hK hD.1 rfl 0 (by decide) (hts (.fieldLink RX5 10 "DroopBoard" "board" "LDroopBoard$Board;") (List.mem_of_getElem? (i := 3) rfl)) rfl dX5_run_34 ?_
  refine dp_Vv hF hK hN (c_X3_save l D G (hh α) (sB α) w sv n (aB α 0) R _ hD.2.2.2.2.1 (hap_a hα) hw hD.2.1 (sB_b hα) hbz (hh_b hα) hn6) (cwV 1 hts gX5_run_X3_save rfl rfl rfl (by decide +kernel) ⟨Nat.le_of_ble_eq_true rfl, Nat.le_of_ble_eq_true rfl⟩) (dp_recv hK hD.2.2.2.2.1.1 rfl) hS A5_h [] rfl rfl hl.1 (Nat.le_of_ble_eq_true rfl) dX5_run_37 ⟨Nat.le_of_ble_eq_true rfl, Nat.le_of_ble_eq_true rfl⟩ (fun H3 locs hp hzH3 hkH3 hS => ?_)
  obtain ⟨hz9, w, hw, hI9⟩ := hp
  have hD := hD.hist hα hI9 (fun q hq => hq) hkH3
  refine lv_aload_n hx hb dX5_run_40 rfl (lv_at hl 0 rfl) ?_
  refine dp_get hx hb hts (dp_hin 78 rfl) hown hK hD.1 rfl 0 (by decide) (hts (.fieldLink RX5 10 "DroopBoard" "board" "LDroopBoard$Board;") (List.mem_of_getElem? (i := 3) rfl)) rfl dX5_run_41 ?_
  refine dp_get hx hb hts (dp_hin 84 rfl) hown hK hD.2.1.1 rfl 0 (by decide) (hts (.fieldLink RX5 44 "DroopBoard$Board" "diesels" "[LDroopBoard$Diesel;") (List.mem_of_getElem? (i := 4) rfl)) rfl dX5_run_44 ?_
  refine lv_iload_n hx hb dX5_run_47 rfl (lv_at hl 1 rfl) ?_
  refine dp_aald hx hb hK hD.2.1.2.1 1 rfl j rfl hj (by decide) rfl dX5_run_48 ?_
  refine dp_Vv hF hK hN (c_X1_start l D G (aB α 0 (4 + j)) j R _ (hD.2.1.2.2.2.2.1 j hj)) (cwV 0 hts gX5_run_X1_start rfl rfl rfl (by decide +kernel) ⟨Nat.le_of_ble_eq_true rfl, Nat.le_of_ble_eq_true rfl⟩) (dp_recv hK (hD.2.1.2.2.2.2.1 j hj) rfl) hS (fun q hq => A5_b (j := 0) (by omega) q ⟨4 + j, by omega, hq⟩) [] rfl rfl hl.1 (Nat.le_of_ble_eq_true rfl) dX5_run_49 ⟨Nat.le_of_ble_eq_true rfl, Nat.le_of_ble_eq_true rfl⟩ (fun H4 locs hp hzH4 hkH4 hS => ?_)
  obtain ⟨hz9, hc9⟩ := hp
  have hB9 := hD.2.1.rstD (k := 11) (Or.inl rfl) (aB_inj hα (by omega)) hj hc9 hkH4
  have hD := hD.board hα hw hB9 (fun q hq => ⟨4 + j, by omega, hq⟩) hkH4
  refine lv_aload_n hx hb dX5_run_52 rfl (lv_at hl 0 rfl) ?_
  refine dp_get hx hb hts (dp_hin 78 rfl) hown hK hD.1 rfl 0 (by decide) (hts (.fieldLink RX5 10 "DroopBoard" "board" "LDroopBoard$Board;") (List.mem_of_getElem? (i := 3) rfl)) rfl dX5_run_53 ?_
  refine dp_Vi hF hK hN (c_X0_running l D G (aB α 0) (rst (upd R (11 + 10 * j) 1) j)  _ hD.2.1 ) (cwV 0 hts gX5_run_X0_running rfl rfl rfl (by decide +kernel) ⟨Nat.le_of_ble_eq_true rfl, Nat.le_of_ble_eq_true rfl⟩) (dp_recv hK hD.2.1.1 rfl) hS nA_i [] rfl rfl hl.1 (Nat.le_of_ble_eq_true rfl) dX5_run_56 ⟨Nat.le_of_ble_eq_true rfl, Nat.le_of_ble_eq_true rfl⟩ (fun rH5 H5 locs hp hzH5 hkH5 hS => ?_)
  obtain ⟨rfl, rfl⟩ := hp
  exact W.iret hx hb hr (fun t ht hW => ⟨⟨osum (rst (upd R (11 + 10 * j) 1) j) 11 3, H4, rfl, ⟨rfl, _, _, _, _, _, _, (svn_le hn6), hl6, w, _, hw, hD⟩, ht⟩, hS.F ht⟩) hS.2.2 dX5_run_59

set_option maxHeartbeats 600000 in
set_option maxRecDepth 100000 in
theorem n_X5_halt (l : Launch) (D : va_G) (G : Nat → ClassId) (α : Nat → Nat) (R : Nat → Int32) (j : Nat) (H : Heap) (hα : inj 115 α) (hO : OB D G α R H) (hg : gd R) (hj : j < 3) (h0 : ¬ R (11 + 10 * j) = 0) (h1 : R (12 + 10 * j) = 0) : Met l yX5_halt wsX5_halt ({ frames := 3, cells := 0, slots := 0, locals := 64 } : Room) (va_Pc [.ref (α 0), .int (nI j)] (CX D G H)) (QI (A5 α) (fun r h => osum (rst (upd R (11 + 10 * j) 0) j) 11 3 = r ∧ OB D G α (rst (upd R (11 + 10 * j) 0) j) h)) 0 0 (A5 α) := by
  refine Met.ofW (cc := cX5_halt) (maxL := 2) (ret := (some .int)) (by decide) rfl ?_
  intro p e s m args below meth c s₁ B0 hml hv
  obtain ⟨rfl, rfl, hK, hN⟩ := hv
  have hx := B0.exec
  have hb := B0.bytes
  have hr := B0.returns
  have hts := atoms_spec (ws := wsX5_halt) B0.pre
  have hown : s.vm.findClass RX5 = some m.cls := findClass_of_methodNamed B0.named
  have hlocks := B0.notSynchronized
  have hF : CallFix p m c cX5_halt 2 s ([.ref (α 0), .int (nI j)] : List Value).toArray wsX5_halt RX5 := ⟨hx, hb, hml, hown, hts⟩
  have hS : va_S (A5 α) s.heap s.heap [] := va_S.rf
  have hl := lv_entry ([.ref (α 0), .int (nI j)]) (n := 2) (Nat.le_of_ble_eq_true rfl)
  rw [lg_entry_eq]
  generalize (lg_sl ([.ref (α 0), .int (nI j)]) ++ List.replicate (2 - (lg_sl ([.ref (α 0), .int (nI j)])).length) Slot.unset).toArray = ls at hl ⊢
  have hl : lv_has ls 2 [(0, .ref (α 0)), (1, .int (nI j))] := hl
  obtain ⟨RS, kp, sv, n, F, len, hn6, hl6, w, RT, hw, hD⟩ := hO
  have hbz := gd_bz hg
  have hm := gd_mono hg
  refine lv_iload_n hx hb dX5_halt_0 rfl (lv_at hl 1 rfl) ?_
  refine dp_Sv hF hK hN (n_X5_needSet l D G j _ hj) (va_cwS 1 hts gX5_halt_X5_needSet rfl rfl rfl (by decide +kernel) ⟨Nat.le_of_ble_eq_true rfl, Nat.le_of_ble_eq_true rfl⟩) hS nA_i [] rfl rfl hl.1 (Nat.le_of_ble_eq_true rfl) dX5_halt_1 ⟨Nat.le_of_ble_eq_true rfl, Nat.le_of_ble_eq_true rfl⟩ (fun H1 locs hp hzH1 hkH1 hS => ?_)
  obtain rfl := hp
  refine lv_aload_n hx hb dX5_halt_4 rfl (lv_at hl 0 rfl) ?_
  refine dp_get hx hb hts (dp_hin 78 rfl) hown hK hD.1 rfl 0 (by decide) (hts (.fieldLink RX5 10 "DroopBoard" "board" "LDroopBoard$Board;") (List.mem_of_getElem? (i := 3) rfl)) rfl dX5_halt_5 ?_
  refine dp_get hx hb hts (dp_hin 84 rfl) hown hK hD.2.1.1 rfl 0 (by decide) (hts (.fieldLink RX5 44 "DroopBoard$Board" "diesels" "[LDroopBoard$Diesel;") (List.mem_of_getElem? (i := 4) rfl)) rfl dX5_halt_8 ?_
  refine lv_iload_n hx hb dX5_halt_11 rfl (lv_at hl 1 rfl) ?_
  refine dp_aald hx hb hK hD.2.1.2.1 1 rfl j rfl hj (by decide) rfl dX5_halt_12 ?_
  refine dp_Vi hF hK hN (c_X1_canStop l D G (aB α 0 (4 + j)) j R _ (hD.2.1.2.2.2.2.1 j hj)) (cwV 0 hts gX5_halt_X1_canStop rfl rfl rfl (by decide +kernel) ⟨Nat.le_of_ble_eq_true rfl, Nat.le_of_ble_eq_true rfl⟩) (dp_recv hK (hD.2.1.2.2.2.2.1 j hj) rfl) hS nA_i [] rfl rfl hl.1 (Nat.le_of_ble_eq_true rfl) dX5_halt_13 ⟨Nat.le_of_ble_eq_true rfl, Nat.le_of_ble_eq_true rfl⟩ (fun rH2 H2 locs hp hzH2 hkH2 hS => ?_)
  obtain ⟨rfl, rfl⟩ := hp
  refine lv_if_ne (tgt := 29) hx hb dX5_halt_16 (by decide) (fun c1 => ?_) (fun c1 => absurd c1 (by rw [if_neg h0, if_pos h1]; decide))
  refine lv_aload_n hx hb dX5_halt_29 rfl (lv_at hl 0 rfl) ?_
  refine dp_get hx hb hts (dp_hin 78 rfl) hown hK hD.1 rfl 4 (by decide) (hts (.fieldLink RX5 25 "DroopBoard" "history" "LDroopBoard$History;") (List.mem_of_getElem? (i := 5) rfl)) rfl dX5_halt_30 ?_
  refine lv_aload_n hx hb dX5_halt_33 rfl (lv_at hl 0 rfl) ?_
  refine dp_get hx hb hts (dp_hin 78 rfl) hown hK hD.1 rfl 0 (by decide) (hts (.fieldLink RX5 10 "DroopBoard" "board" "LDroopBoard$Board;") (List.mem_of_getElem? (i := 3) rfl)) rfl dX5_halt_34 ?_
  refine dp_Vv hF hK hN (c_X3_save l D G (hh α) (sB α) w sv n (aB α 0) R _ hD.2.2.2.2.1 (hap_a hα) hw hD.2.1 (sB_b hα) hbz (hh_b hα) hn6) (cwV 1 hts gX5_halt_X3_save rfl rfl rfl (by decide +kernel) ⟨Nat.le_of_ble_eq_true rfl, Nat.le_of_ble_eq_true rfl⟩) (dp_recv hK hD.2.2.2.2.1.1 rfl) hS A5_h [] rfl rfl hl.1 (Nat.le_of_ble_eq_true rfl) dX5_halt_37 ⟨Nat.le_of_ble_eq_true rfl, Nat.le_of_ble_eq_true rfl⟩ (fun H3 locs hp hzH3 hkH3 hS => ?_)
  obtain ⟨hz9, w, hw, hI9⟩ := hp
  have hD := hD.hist hα hI9 (fun q hq => hq) hkH3
  refine lv_aload_n hx hb dX5_halt_40 rfl (lv_at hl 0 rfl) ?_
  refine dp_get hx hb hts (dp_hin 78 rfl) hown hK hD.1 rfl 0 (by decide) (hts (.fieldLink RX5 10 "DroopBoard" "board" "LDroopBoard$Board;") (List.mem_of_getElem? (i := 3) rfl)) rfl dX5_halt_41 ?_
  refine dp_get hx hb hts (dp_hin 84 rfl) hown hK hD.2.1.1 rfl 0 (by decide) (hts (.fieldLink RX5 44 "DroopBoard$Board" "diesels" "[LDroopBoard$Diesel;") (List.mem_of_getElem? (i := 4) rfl)) rfl dX5_halt_44 ?_
  refine lv_iload_n hx hb dX5_halt_47 rfl (lv_at hl 1 rfl) ?_
  refine dp_aald hx hb hK hD.2.1.2.1 1 rfl j rfl hj (by decide) rfl dX5_halt_48 ?_
  refine dp_Vv hF hK hN (c_X1_stop l D G (aB α 0 (4 + j)) j R _ (hD.2.1.2.2.2.2.1 j hj)) (cwV 0 hts gX5_halt_X1_stop rfl rfl rfl (by decide +kernel) ⟨Nat.le_of_ble_eq_true rfl, Nat.le_of_ble_eq_true rfl⟩) (dp_recv hK (hD.2.1.2.2.2.2.1 j hj) rfl) hS (fun q hq => A5_b (j := 0) (by omega) q ⟨4 + j, by omega, hq⟩) [] rfl rfl hl.1 (Nat.le_of_ble_eq_true rfl) dX5_halt_49 ⟨Nat.le_of_ble_eq_true rfl, Nat.le_of_ble_eq_true rfl⟩ (fun H4 locs hp hzH4 hkH4 hS => ?_)
  obtain ⟨hz9, hc9⟩ := hp
  have hB9 := hD.2.1.rstD (k := 11) (Or.inl rfl) (aB_inj hα (by omega)) hj hc9 hkH4
  have hD := hD.board hα hw hB9 (fun q hq => ⟨4 + j, by omega, hq⟩) hkH4
  refine lv_aload_n hx hb dX5_halt_52 rfl (lv_at hl 0 rfl) ?_
  refine dp_get hx hb hts (dp_hin 78 rfl) hown hK hD.1 rfl 0 (by decide) (hts (.fieldLink RX5 10 "DroopBoard" "board" "LDroopBoard$Board;") (List.mem_of_getElem? (i := 3) rfl)) rfl dX5_halt_53 ?_
  refine dp_Vi hF hK hN (c_X0_running l D G (aB α 0) (rst (upd R (11 + 10 * j) 0) j)  _ hD.2.1 ) (cwV 0 hts gX5_halt_X0_running rfl rfl rfl (by decide +kernel) ⟨Nat.le_of_ble_eq_true rfl, Nat.le_of_ble_eq_true rfl⟩) (dp_recv hK hD.2.1.1 rfl) hS nA_i [] rfl rfl hl.1 (Nat.le_of_ble_eq_true rfl) dX5_halt_56 ⟨Nat.le_of_ble_eq_true rfl, Nat.le_of_ble_eq_true rfl⟩ (fun rH5 H5 locs hp hzH5 hkH5 hS => ?_)
  obtain ⟨rfl, rfl⟩ := hp
  exact W.iret hx hb hr (fun t ht hW => ⟨⟨osum (rst (upd R (11 + 10 * j) 0) j) 11 3, H4, rfl, ⟨rfl, _, _, _, _, _, _, (svn_le hn6), hl6, w, _, hw, hD⟩, ht⟩, hS.F ht⟩) hS.2.2 dX5_halt_59

set_option maxHeartbeats 600000 in
set_option maxRecDepth 100000 in
theorem n_X5_close (l : Launch) (D : va_G) (G : Nat → ClassId) (α : Nat → Nat) (R : Nat → Int32) (j : Nat) (H : Heap) (hα : inj 115 α) (hO : OB D G α R H) (hg : gd R) (hj : j < 3) (h0 : rsn R j = 0) : Met l yX5_close wsX5_close ({ frames := 4, cells := 0, slots := 0, locals := 91 } : Room) (va_Pc [.ref (α 0), .int (nI j)] (CX D G H)) (QI (A5 α) (fun r h => fq (rst (upd R (12 + 10 * j) 1) j) = r ∧ OB D G α (rst (upd R (12 + 10 * j) 1) j) h)) 0 0 (A5 α) := by
  refine Met.ofW (cc := cX5_close) (maxL := 2) (ret := (some .int)) (by decide) rfl ?_
  intro p e s m args below meth c s₁ B0 hml hv
  obtain ⟨rfl, rfl, hK, hN⟩ := hv
  have hx := B0.exec
  have hb := B0.bytes
  have hr := B0.returns
  have hts := atoms_spec (ws := wsX5_close) B0.pre
  have hown : s.vm.findClass RX5 = some m.cls := findClass_of_methodNamed B0.named
  have hlocks := B0.notSynchronized
  have hF : CallFix p m c cX5_close 2 s ([.ref (α 0), .int (nI j)] : List Value).toArray wsX5_close RX5 := ⟨hx, hb, hml, hown, hts⟩
  have hS : va_S (A5 α) s.heap s.heap [] := va_S.rf
  have hl := lv_entry ([.ref (α 0), .int (nI j)]) (n := 2) (Nat.le_of_ble_eq_true rfl)
  rw [lg_entry_eq]
  generalize (lg_sl ([.ref (α 0), .int (nI j)]) ++ List.replicate (2 - (lg_sl ([.ref (α 0), .int (nI j)])).length) Slot.unset).toArray = ls at hl ⊢
  have hl : lv_has ls 2 [(0, .ref (α 0)), (1, .int (nI j))] := hl
  obtain ⟨RS, kp, sv, n, F, len, hn6, hl6, w, RT, hw, hD⟩ := hO
  have hbz := gd_bz hg
  have hm := gd_mono hg
  have hm2 := mono_sw (j := j) (x := 1) hg (Or.inr rfl)
  refine lv_iload_n hx hb dX5_close_0 rfl (lv_at hl 1 rfl) ?_
  refine dp_Sv hF hK hN (n_X5_needSet l D G j _ hj) (va_cwS 1 hts gX5_close_X5_needSet rfl rfl rfl (by decide +kernel) ⟨Nat.le_of_ble_eq_true rfl, Nat.le_of_ble_eq_true rfl⟩) hS nA_i [] rfl rfl hl.1 (Nat.le_of_ble_eq_true rfl) dX5_close_1 ⟨Nat.le_of_ble_eq_true rfl, Nat.le_of_ble_eq_true rfl⟩ (fun H1 locs hp hzH1 hkH1 hS => ?_)
  obtain rfl := hp
  refine lv_aload_n hx hb dX5_close_4 rfl (lv_at hl 0 rfl) ?_
  refine dp_get hx hb hts (dp_hin 108 rfl) hown hK hD.1 rfl 0 (by decide) (hts (.fieldLink RX5 10 "DroopBoard" "board" "LDroopBoard$Board;") (List.mem_of_getElem? (i := 3) rfl)) rfl dX5_close_5 ?_
  refine lv_iload_n hx hb dX5_close_8 rfl (lv_at hl 1 rfl) ?_
  refine dp_Vi hF hK hN (c_X0_whyNotClosed l D G (aB α 0) R j _ hD.2.1 hj hm) (cwV 1 hts gX5_close_X0_whyNotClosed rfl rfl rfl (by decide +kernel) ⟨Nat.le_of_ble_eq_true rfl, Nat.le_of_ble_eq_true rfl⟩) (dp_recv hK hD.2.1.1 rfl) hS nA_i [] rfl rfl hl.1 (Nat.le_of_ble_eq_true rfl) dX5_close_9 ⟨Nat.le_of_ble_eq_true rfl, Nat.le_of_ble_eq_true rfl⟩ (fun rH2 H2 locs hp hzH2 hkH2 hS => ?_)
  obtain ⟨rfl, rfl⟩ := hp
  refine lv_if_eq (tgt := 25) hx hb dX5_close_12 (by decide) (fun c1 => ?_) (fun c1 => absurd h0 c1)
  refine lv_aload_n hx hb dX5_close_25 rfl (lv_at hl 0 rfl) ?_
  refine dp_get hx hb hts (dp_hin 108 rfl) hown hK hD.1 rfl 4 (by decide) (hts (.fieldLink RX5 25 "DroopBoard" "history" "LDroopBoard$History;") (List.mem_of_getElem? (i := 4) rfl)) rfl dX5_close_26 ?_
  refine lv_aload_n hx hb dX5_close_29 rfl (lv_at hl 0 rfl) ?_
  refine dp_get hx hb hts (dp_hin 108 rfl) hown hK hD.1 rfl 0 (by decide) (hts (.fieldLink RX5 10 "DroopBoard" "board" "LDroopBoard$Board;") (List.mem_of_getElem? (i := 3) rfl)) rfl dX5_close_30 ?_
  refine dp_Vv hF hK hN (c_X3_save l D G (hh α) (sB α) w sv n (aB α 0) R _ hD.2.2.2.2.1 (hap_a hα) hw hD.2.1 (sB_b hα) hbz (hh_b hα) hn6) (cwV 1 hts gX5_close_X3_save rfl rfl rfl (by decide +kernel) ⟨Nat.le_of_ble_eq_true rfl, Nat.le_of_ble_eq_true rfl⟩) (dp_recv hK hD.2.2.2.2.1.1 rfl) hS A5_h [] rfl rfl hl.1 (Nat.le_of_ble_eq_true rfl) dX5_close_33 ⟨Nat.le_of_ble_eq_true rfl, Nat.le_of_ble_eq_true rfl⟩ (fun H3 locs hp hzH3 hkH3 hS => ?_)
  obtain ⟨hz9, w, hw, hI9⟩ := hp
  have hD := hD.hist hα hI9 (fun q hq => hq) hkH3
  refine lv_aload_n hx hb dX5_close_36 rfl (lv_at hl 0 rfl) ?_
  refine dp_get hx hb hts (dp_hin 108 rfl) hown hK hD.1 rfl 0 (by decide) (hts (.fieldLink RX5 10 "DroopBoard" "board" "LDroopBoard$Board;") (List.mem_of_getElem? (i := 3) rfl)) rfl dX5_close_37 ?_
  refine dp_get hx hb hts (dp_hin 114 rfl) hown hK hD.2.1.1 rfl 0 (by decide) (hts (.fieldLink RX5 44 "DroopBoard$Board" "diesels" "[LDroopBoard$Diesel;") (List.mem_of_getElem? (i := 5) rfl)) rfl dX5_close_40 ?_
  refine lv_iload_n hx hb dX5_close_43 rfl (lv_at hl 1 rfl) ?_
  refine dp_aald hx hb hK hD.2.1.2.1 1 rfl j rfl hj (by decide) rfl dX5_close_44 ?_
  refine dp_Vv hF hK hN (c_X1_closeBreaker l D G (aB α 0 (4 + j)) j R _ (hD.2.1.2.2.2.2.1 j hj)) (cwV 0 hts gX5_close_X1_closeBreaker rfl rfl rfl (by decide +kernel) ⟨Nat.le_of_ble_eq_true rfl, Nat.le_of_ble_eq_true rfl⟩) (dp_recv hK (hD.2.1.2.2.2.2.1 j hj) rfl) hS (fun q hq => A5_b (j := 0) (by omega) q ⟨4 + j, by omega, hq⟩) [] rfl rfl hl.1 (Nat.le_of_ble_eq_true rfl) dX5_close_45 ⟨Nat.le_of_ble_eq_true rfl, Nat.le_of_ble_eq_true rfl⟩ (fun H4 locs hp hzH4 hkH4 hS => ?_)
  obtain ⟨hz9, hc9⟩ := hp
  have hB9 := hD.2.1.rstD (k := 12) (Or.inr rfl) (aB_inj hα (by omega)) hj hc9 hkH4
  have hD := hD.board hα hw hB9 (fun q hq => ⟨4 + j, by omega, hq⟩) hkH4
  refine lv_aload_n hx hb dX5_close_48 rfl (lv_at hl 0 rfl) ?_
  refine dp_get hx hb hts (dp_hin 108 rfl) hown hK hD.1 rfl 0 (by decide) (hts (.fieldLink RX5 10 "DroopBoard" "board" "LDroopBoard$Board;") (List.mem_of_getElem? (i := 3) rfl)) rfl dX5_close_49 ?_
  refine dp_Vi hF hK hN (c_X0_frequency l D G (aB α 0) (rst (upd R (12 + 10 * j) 1) j)  _ hD.2.1 hm2) (cwV 0 hts gX5_close_X0_frequency rfl rfl rfl (by decide +kernel) ⟨Nat.le_of_ble_eq_true rfl, Nat.le_of_ble_eq_true rfl⟩) (dp_recv hK hD.2.1.1 rfl) hS nA_i [] rfl rfl hl.1 (Nat.le_of_ble_eq_true rfl) dX5_close_52 ⟨Nat.le_of_ble_eq_true rfl, Nat.le_of_ble_eq_true rfl⟩ (fun rH5 H5 locs hp hzH5 hkH5 hS => ?_)
  obtain ⟨rfl, rfl⟩ := hp
  exact W.iret hx hb hr (fun t ht hW => ⟨⟨fq (rst (upd R (12 + 10 * j) 1) j), H4, rfl, ⟨rfl, _, _, _, _, _, _, (svn_le hn6), hl6, w, _, hw, hD⟩, ht⟩, hS.F ht⟩) hS.2.2 dX5_close_55

set_option maxHeartbeats 600000 in
set_option maxRecDepth 100000 in
theorem n_X5_open (l : Launch) (D : va_G) (G : Nat → ClassId) (α : Nat → Nat) (R : Nat → Int32) (j : Nat) (H : Heap) (hα : inj 115 α) (hO : OB D G α R H) (hg : gd R) (hj : j < 3) (h0 : ¬ R (12 + 10 * j) = 0) : Met l yX5_open wsX5_open ({ frames := 4, cells := 0, slots := 0, locals := 91 } : Room) (va_Pc [.ref (α 0), .int (nI j)] (CX D G H)) (QI (A5 α) (fun r h => fq (rst (upd R (12 + 10 * j) 0) j) = r ∧ OB D G α (rst (upd R (12 + 10 * j) 0) j) h)) 0 0 (A5 α) := by
  refine Met.ofW (cc := cX5_open) (maxL := 2) (ret := (some .int)) (by decide) rfl ?_
  intro p e s m args below meth c s₁ B0 hml hv
  obtain ⟨rfl, rfl, hK, hN⟩ := hv
  have hx := B0.exec
  have hb := B0.bytes
  have hr := B0.returns
  have hts := atoms_spec (ws := wsX5_open) B0.pre
  have hown : s.vm.findClass RX5 = some m.cls := findClass_of_methodNamed B0.named
  have hlocks := B0.notSynchronized
  have hF : CallFix p m c cX5_open 2 s ([.ref (α 0), .int (nI j)] : List Value).toArray wsX5_open RX5 := ⟨hx, hb, hml, hown, hts⟩
  have hS : va_S (A5 α) s.heap s.heap [] := va_S.rf
  have hl := lv_entry ([.ref (α 0), .int (nI j)]) (n := 2) (Nat.le_of_ble_eq_true rfl)
  rw [lg_entry_eq]
  generalize (lg_sl ([.ref (α 0), .int (nI j)]) ++ List.replicate (2 - (lg_sl ([.ref (α 0), .int (nI j)])).length) Slot.unset).toArray = ls at hl ⊢
  have hl : lv_has ls 2 [(0, .ref (α 0)), (1, .int (nI j))] := hl
  obtain ⟨RS, kp, sv, n, F, len, hn6, hl6, w, RT, hw, hD⟩ := hO
  have hbz := gd_bz hg
  have hm := gd_mono hg
  have hm2 := mono_sw (j := j) (x := 0) hg (Or.inl rfl)
  refine lv_iload_n hx hb dX5_open_0 rfl (lv_at hl 1 rfl) ?_
  refine dp_Sv hF hK hN (n_X5_needSet l D G j _ hj) (va_cwS 1 hts gX5_open_X5_needSet rfl rfl rfl (by decide +kernel) ⟨Nat.le_of_ble_eq_true rfl, Nat.le_of_ble_eq_true rfl⟩) hS nA_i [] rfl rfl hl.1 (Nat.le_of_ble_eq_true rfl) dX5_open_1 ⟨Nat.le_of_ble_eq_true rfl, Nat.le_of_ble_eq_true rfl⟩ (fun H1 locs hp hzH1 hkH1 hS => ?_)
  obtain rfl := hp
  refine lv_aload_n hx hb dX5_open_4 rfl (lv_at hl 0 rfl) ?_
  refine dp_get hx hb hts (dp_hin 91 rfl) hown hK hD.1 rfl 0 (by decide) (hts (.fieldLink RX5 10 "DroopBoard" "board" "LDroopBoard$Board;") (List.mem_of_getElem? (i := 3) rfl)) rfl dX5_open_5 ?_
  refine dp_get hx hb hts (dp_hin 97 rfl) hown hK hD.2.1.1 rfl 0 (by decide) (hts (.fieldLink RX5 44 "DroopBoard$Board" "diesels" "[LDroopBoard$Diesel;") (List.mem_of_getElem? (i := 4) rfl)) rfl dX5_open_8 ?_
  refine lv_iload_n hx hb dX5_open_11 rfl (lv_at hl 1 rfl) ?_
  refine dp_aald hx hb hK hD.2.1.2.1 1 rfl j rfl hj (by decide) rfl dX5_open_12 ?_
  refine dp_get hx hb hts (dp_hin 102 rfl) hown hK (hD.2.1.2.2.2.2.1 j hj) rfl 4 (by decide) (hts (.fieldLink RX5 108 "DroopBoard$Diesel" "closed" "Z") (List.mem_of_getElem? (i := 5) rfl)) rfl dX5_open_13 ?_
  refine lv_if_ne (tgt := 29) hx hb dX5_open_16 (by decide) (fun c1 => ?_) (fun c1 => absurd c1 h0)
  refine lv_aload_n hx hb dX5_open_29 rfl (lv_at hl 0 rfl) ?_
  refine dp_get hx hb hts (dp_hin 91 rfl) hown hK hD.1 rfl 4 (by decide) (hts (.fieldLink RX5 25 "DroopBoard" "history" "LDroopBoard$History;") (List.mem_of_getElem? (i := 6) rfl)) rfl dX5_open_30 ?_
  refine lv_aload_n hx hb dX5_open_33 rfl (lv_at hl 0 rfl) ?_
  refine dp_get hx hb hts (dp_hin 91 rfl) hown hK hD.1 rfl 0 (by decide) (hts (.fieldLink RX5 10 "DroopBoard" "board" "LDroopBoard$Board;") (List.mem_of_getElem? (i := 3) rfl)) rfl dX5_open_34 ?_
  refine dp_Vv hF hK hN (c_X3_save l D G (hh α) (sB α) w sv n (aB α 0) R _ hD.2.2.2.2.1 (hap_a hα) hw hD.2.1 (sB_b hα) hbz (hh_b hα) hn6) (cwV 1 hts gX5_open_X3_save rfl rfl rfl (by decide +kernel) ⟨Nat.le_of_ble_eq_true rfl, Nat.le_of_ble_eq_true rfl⟩) (dp_recv hK hD.2.2.2.2.1.1 rfl) hS A5_h [] rfl rfl hl.1 (Nat.le_of_ble_eq_true rfl) dX5_open_37 ⟨Nat.le_of_ble_eq_true rfl, Nat.le_of_ble_eq_true rfl⟩ (fun H2 locs hp hzH2 hkH2 hS => ?_)
  obtain ⟨hz9, w, hw, hI9⟩ := hp
  have hD := hD.hist hα hI9 (fun q hq => hq) hkH2
  refine lv_aload_n hx hb dX5_open_40 rfl (lv_at hl 0 rfl) ?_
  refine dp_get hx hb hts (dp_hin 91 rfl) hown hK hD.1 rfl 0 (by decide) (hts (.fieldLink RX5 10 "DroopBoard" "board" "LDroopBoard$Board;") (List.mem_of_getElem? (i := 3) rfl)) rfl dX5_open_41 ?_
  refine dp_get hx hb hts (dp_hin 97 rfl) hown hK hD.2.1.1 rfl 0 (by decide) (hts (.fieldLink RX5 44 "DroopBoard$Board" "diesels" "[LDroopBoard$Diesel;") (List.mem_of_getElem? (i := 4) rfl)) rfl dX5_open_44 ?_
  refine lv_iload_n hx hb dX5_open_47 rfl (lv_at hl 1 rfl) ?_
  refine dp_aald hx hb hK hD.2.1.2.1 1 rfl j rfl hj (by decide) rfl dX5_open_48 ?_
  refine dp_Vv hF hK hN (c_X1_openBreaker l D G (aB α 0 (4 + j)) j R _ (hD.2.1.2.2.2.2.1 j hj)) (cwV 0 hts gX5_open_X1_openBreaker rfl rfl rfl (by decide +kernel) ⟨Nat.le_of_ble_eq_true rfl, Nat.le_of_ble_eq_true rfl⟩) (dp_recv hK (hD.2.1.2.2.2.2.1 j hj) rfl) hS (fun q hq => A5_b (j := 0) (by omega) q ⟨4 + j, by omega, hq⟩) [] rfl rfl hl.1 (Nat.le_of_ble_eq_true rfl) dX5_open_49 ⟨Nat.le_of_ble_eq_true rfl, Nat.le_of_ble_eq_true rfl⟩ (fun H3 locs hp hzH3 hkH3 hS => ?_)
  obtain ⟨hz9, hc9⟩ := hp
  have hB9 := hD.2.1.rstD (k := 12) (Or.inr rfl) (aB_inj hα (by omega)) hj hc9 hkH3
  have hD := hD.board hα hw hB9 (fun q hq => ⟨4 + j, by omega, hq⟩) hkH3
  refine lv_aload_n hx hb dX5_open_52 rfl (lv_at hl 0 rfl) ?_
  refine dp_get hx hb hts (dp_hin 91 rfl) hown hK hD.1 rfl 0 (by decide) (hts (.fieldLink RX5 10 "DroopBoard" "board" "LDroopBoard$Board;") (List.mem_of_getElem? (i := 3) rfl)) rfl dX5_open_53 ?_
  refine dp_Vi hF hK hN (c_X0_frequency l D G (aB α 0) (rst (upd R (12 + 10 * j) 0) j)  _ hD.2.1 hm2) (cwV 0 hts gX5_open_X0_frequency rfl rfl rfl (by decide +kernel) ⟨Nat.le_of_ble_eq_true rfl, Nat.le_of_ble_eq_true rfl⟩) (dp_recv hK hD.2.1.1 rfl) hS nA_i [] rfl rfl hl.1 (Nat.le_of_ble_eq_true rfl) dX5_open_56 ⟨Nat.le_of_ble_eq_true rfl, Nat.le_of_ble_eq_true rfl⟩ (fun rH4 H4 locs hp hzH4 hkH4 hS => ?_)
  obtain ⟨rfl, rfl⟩ := hp
  exact W.iret hx hb hr (fun t ht hW => ⟨⟨fq (rst (upd R (12 + 10 * j) 0) j), H3, rfl, ⟨rfl, _, _, _, _, _, _, (svn_le hn6), hl6, w, _, hw, hD⟩, ht⟩, hS.F ht⟩) hS.2.2 dX5_open_59

set_option maxHeartbeats 600000 in
set_option maxRecDepth 100000 in
theorem n_X5_load (l : Launch) (D : va_G) (G : Nat → ClassId) (α : Nat → Nat) (R : Nat → Int32) (j : Nat) (v : Int32) (H : Heap) (hα : inj 115 α) (hO : OB D G α R H) (hg : gd R) (hj : j < 4) (h1 : ¬ v < 0 ∧ ¬ 300 < v) : Met l yX5_load wsX5_load ({ frames := 3, cells := 0, slots := 0, locals := 64 } : Room) (va_Pc [.ref (α 0), .int (nI j), .int v] (CX D G H)) (QI (A5 α) (fun r h => R (38 + 3 * j) = r ∧ OB D G α (upd R (38 + 3 * j) v) h)) 0 0 (A5 α) := by
  refine Met.ofW (cc := cX5_load) (maxL := 4) (ret := (some .int)) (by decide) rfl ?_
  intro p e s m args below meth c s₁ B0 hml hv
  obtain ⟨rfl, rfl, hK, hN⟩ := hv
  have hx := B0.exec
  have hb := B0.bytes
  have hr := B0.returns
  have hts := atoms_spec (ws := wsX5_load) B0.pre
  have hown : s.vm.findClass RX5 = some m.cls := findClass_of_methodNamed B0.named
  have hlocks := B0.notSynchronized
  have hF : CallFix p m c cX5_load 4 s ([.ref (α 0), .int (nI j), .int v] : List Value).toArray wsX5_load RX5 := ⟨hx, hb, hml, hown, hts⟩
  have hS : va_S (A5 α) s.heap s.heap [] := va_S.rf
  have hl := lv_entry ([.ref (α 0), .int (nI j), .int v]) (n := 4) (Nat.le_of_ble_eq_true rfl)
  rw [lg_entry_eq]
  generalize (lg_sl ([.ref (α 0), .int (nI j), .int v]) ++ List.replicate (4 - (lg_sl ([.ref (α 0), .int (nI j), .int v])).length) Slot.unset).toArray = ls at hl ⊢
  have hl : lv_has ls 4 [(0, .ref (α 0)), (1, .int (nI j)), (2, .int v)] := hl
  obtain ⟨RS, kp, sv, n, F, len, hn6, hl6, w, RT, hw, hD⟩ := hO
  have hbz := gd_bz hg
  have hm := gd_mono hg
  refine lv_iload_n hx hb dX5_load_0 rfl (lv_at hl 1 rfl) ?_
  refine dp_Sv hF hK hN (n_X5_needFeeder l D G j _ hj) (va_cwS 1 hts gX5_load_X5_needFeeder rfl rfl rfl (by decide +kernel) ⟨Nat.le_of_ble_eq_true rfl, Nat.le_of_ble_eq_true rfl⟩) hS nA_i [] rfl rfl hl.1 (Nat.le_of_ble_eq_true rfl) dX5_load_1 ⟨Nat.le_of_ble_eq_true rfl, Nat.le_of_ble_eq_true rfl⟩ (fun H1 locs hp hzH1 hkH1 hS => ?_)
  obtain rfl := hp
  refine lv_iload_n hx hb dX5_load_4 rfl (lv_at hl 2 rfl) ?_
  refine lv_iconst (v := 0) hx hb dX5_load_5 (by decide) ?_
  refine lv_sipush (v := 300) hx hb dX5_load_6 (by decide) ?_
  refine dp_Sv hF hK hN (n_X5_needRange l D G v 0 300 _ h1) (va_cwS 3 hts gX5_load_X5_needRange rfl rfl rfl (by decide +kernel) ⟨Nat.le_of_ble_eq_true rfl, Nat.le_of_ble_eq_true rfl⟩) hS nA_i [] rfl rfl hl.1 (Nat.le_of_ble_eq_true rfl) dX5_load_9 ⟨Nat.le_of_ble_eq_true rfl, Nat.le_of_ble_eq_true rfl⟩ (fun H2 locs hp hzH2 hkH2 hS => ?_)
  obtain rfl := hp
  refine lv_aload_n hx hb dX5_load_12 rfl (lv_at hl 0 rfl) ?_
  refine dp_get hx hb hts (dp_hin 63 rfl) hown hK hD.1 rfl 4 (by decide) (hts (.fieldLink RX5 25 "DroopBoard" "history" "LDroopBoard$History;") (List.mem_of_getElem? (i := 1) rfl)) rfl dX5_load_13 ?_
  refine lv_aload_n hx hb dX5_load_16 rfl (lv_at hl 0 rfl) ?_
  refine dp_get hx hb hts (dp_hin 63 rfl) hown hK hD.1 rfl 0 (by decide) (hts (.fieldLink RX5 10 "DroopBoard" "board" "LDroopBoard$Board;") (List.mem_of_getElem? (i := 2) rfl)) rfl dX5_load_17 ?_
  refine dp_Vv hF hK hN (c_X3_save l D G (hh α) (sB α) w sv n (aB α 0) R _ hD.2.2.2.2.1 (hap_a hα) hw hD.2.1 (sB_b hα) hbz (hh_b hα) hn6) (cwV 1 hts gX5_load_X3_save rfl rfl rfl (by decide +kernel) ⟨Nat.le_of_ble_eq_true rfl, Nat.le_of_ble_eq_true rfl⟩) (dp_recv hK hD.2.2.2.2.1.1 rfl) hS A5_h [] rfl rfl hl.1 (Nat.le_of_ble_eq_true rfl) dX5_load_20 ⟨Nat.le_of_ble_eq_true rfl, Nat.le_of_ble_eq_true rfl⟩ (fun H3 locs hp hzH3 hkH3 hS => ?_)
  obtain ⟨hz9, w, hw, hI9⟩ := hp
  have hD := hD.hist hα hI9 (fun q hq => hq) hkH3
  refine lv_aload_n hx hb dX5_load_23 rfl (lv_at hl 0 rfl) ?_
  refine dp_get hx hb hts (dp_hin 63 rfl) hown hK hD.1 rfl 0 (by decide) (hts (.fieldLink RX5 10 "DroopBoard" "board" "LDroopBoard$Board;") (List.mem_of_getElem? (i := 2) rfl)) rfl dX5_load_24 ?_
  refine dp_get hx hb hts (dp_hin 69 rfl) hown hK hD.2.1.1 rfl 1 (by decide) (hts (.fieldLink RX5 119 "DroopBoard$Board" "feeders" "[LDroopBoard$Feeder;") (List.mem_of_getElem? (i := 3) rfl)) rfl dX5_load_27 ?_
  refine lv_iload_n hx hb dX5_load_30 rfl (lv_at hl 1 rfl) ?_
  refine dp_aald hx hb hK hD.2.1.2.2.1 2 rfl j rfl hj (by decide) rfl dX5_load_31 ?_
  refine dp_get hx hb hts (dp_hin 74 rfl) hown hK (hD.2.1.2.2.2.2.2 j hj) rfl 0 (by decide) (hts (.fieldLink RX5 123 "DroopBoard$Feeder" "load" "I") (List.mem_of_getElem? (i := 4) rfl)) rfl dX5_load_32 ?_
  refine lv_istore_n (lv' := [(3, .int (R (38 + 3 * j))), (0, .ref (α 0)), (1, .int (nI j)), (2, .int v)]) hx hb dX5_load_35 rfl hl (by decide) rfl (fun ls hl => ?_)
  refine lv_aload_n hx hb dX5_load_36 rfl (lv_at hl 1 rfl) ?_
  refine dp_get hx hb hts (dp_hin 63 rfl) hown hK hD.1 rfl 0 (by decide) (hts (.fieldLink RX5 10 "DroopBoard" "board" "LDroopBoard$Board;") (List.mem_of_getElem? (i := 2) rfl)) rfl dX5_load_37 ?_
  refine dp_get hx hb hts (dp_hin 69 rfl) hown hK hD.2.1.1 rfl 1 (by decide) (hts (.fieldLink RX5 119 "DroopBoard$Board" "feeders" "[LDroopBoard$Feeder;") (List.mem_of_getElem? (i := 3) rfl)) rfl dX5_load_40 ?_
  refine lv_iload_n hx hb dX5_load_43 rfl (lv_at hl 2 rfl) ?_
  refine dp_aald hx hb hK hD.2.1.2.2.1 2 rfl j rfl hj (by decide) rfl dX5_load_44 ?_
  refine lv_iload_n hx hb dX5_load_45 rfl (lv_at hl 3 rfl) ?_
  refine dp_put (A := A5 α) (v := .int v) hx hb hts (dp_hin 74 rfl) tyX2 tyX2_ok nmX2 hown hK (hD.2.1.2.2.2.2.2 j hj) (A5_b (j := 0) (by omega) _ ⟨7 + j, by omega, rfl⟩) hS rfl 0 (by decide) (hts (.fieldLink RX5 123 "DroopBoard$Feeder" "load" "I") (List.mem_of_getElem? (i := 4) rfl)) rfl rfl rfl (Nat.le_of_ble_eq_true rfl) dX5_load_46 (fun H4 locs hH4 hzH4 hkH4 hS => ?_)
  have hB9 : BD D G (aB α 0) (upd R (38 + 3 * j) v) H4 := BD.putF (k := 0) (by omega) hD.2.1 (aB_inj hα (by omega)) hj hH4 hkH4
  have hD := hD.board (A := fun q => q = (aB α 0) (7 + j)) hα hw hB9 (fun q hq => ⟨7 + j, by omega, hq⟩) (fun q _ hne => hkH4 q hne)
  refine lv_iload_n hx hb dX5_load_49 rfl (lv_at hl 0 rfl) ?_
  exact W.iret hx hb hr (fun t ht hW => ⟨⟨R (38 + 3 * j), H4, rfl, ⟨rfl, _, _, _, _, _, _, (svn_le hn6), hl6, w, _, hw, hD⟩, ht⟩, hS.F ht⟩) hS.2.2 dX5_load_50

set_option maxHeartbeats 600000 in
set_option maxRecDepth 100000 in
theorem n_X5_feeder (l : Launch) (D : va_G) (G : Nat → ClassId) (α : Nat → Nat) (R : Nat → Int32) (j : Nat) (v : Int32) (H : Heap) (hα : inj 115 α) (hO : OB D G α R H) (hg : gd R) (hj : j < 4) (hv : ¬ v < 0 ∧ ¬ 1 < v) : Met l yX5_feeder wsX5_feeder ({ frames := 3, cells := 0, slots := 0, locals := 64 } : Room) (va_Pc [.ref (α 0), .int (nI j), .int v] (CX D G H)) (QI (A5 α) (fun r h => (if R (39 + 3 * j) = 0 then 0 else 1) = r ∧ OB D G α (upd R (39 + 3 * j) v) h)) 0 0 (A5 α) := by
  refine Met.ofW (cc := cX5_feeder) (maxL := 4) (ret := (some .int)) (by decide) rfl ?_
  intro p e s m args below meth c s₁ B0 hml hv
  obtain ⟨rfl, rfl, hK, hN⟩ := hv
  have hx := B0.exec
  have hb := B0.bytes
  have hr := B0.returns
  have hts := atoms_spec (ws := wsX5_feeder) B0.pre
  have hown : s.vm.findClass RX5 = some m.cls := findClass_of_methodNamed B0.named
  have hlocks := B0.notSynchronized
  have hF : CallFix p m c cX5_feeder 4 s ([.ref (α 0), .int (nI j), .int v] : List Value).toArray wsX5_feeder RX5 := ⟨hx, hb, hml, hown, hts⟩
  have hS : va_S (A5 α) s.heap s.heap [] := va_S.rf
  have hl := lv_entry ([.ref (α 0), .int (nI j), .int v]) (n := 4) (Nat.le_of_ble_eq_true rfl)
  rw [lg_entry_eq]
  generalize (lg_sl ([.ref (α 0), .int (nI j), .int v]) ++ List.replicate (4 - (lg_sl ([.ref (α 0), .int (nI j), .int v])).length) Slot.unset).toArray = ls at hl ⊢
  have hl : lv_has ls 4 [(0, .ref (α 0)), (1, .int (nI j)), (2, .int v)] := hl
  obtain ⟨RS, kp, sv, n, F, len, hn6, hl6, w, RT, hw, hD⟩ := hO
  have hbz := gd_bz hg
  have hm := gd_mono hg
  refine lv_iload_n hx hb dX5_feeder_0 rfl (lv_at hl 1 rfl) ?_
  refine dp_Sv hF hK hN (n_X5_needFeeder l D G j _ hj) (va_cwS 1 hts gX5_feeder_X5_needFeeder rfl rfl rfl (by decide +kernel) ⟨Nat.le_of_ble_eq_true rfl, Nat.le_of_ble_eq_true rfl⟩) hS nA_i [] rfl rfl hl.1 (Nat.le_of_ble_eq_true rfl) dX5_feeder_1 ⟨Nat.le_of_ble_eq_true rfl, Nat.le_of_ble_eq_true rfl⟩ (fun H1 locs hp hzH1 hkH1 hS => ?_)
  obtain rfl := hp
  refine lv_iload_n hx hb dX5_feeder_4 rfl (lv_at hl 2 rfl) ?_
  refine lv_iconst (v := 0) hx hb dX5_feeder_5 (by decide) ?_
  refine lv_iconst (v := 1) hx hb dX5_feeder_6 (by decide) ?_
  refine dp_Sv hF hK hN (n_X5_needRange l D G v 0 1 _ hv) (va_cwS 3 hts gX5_feeder_X5_needRange rfl rfl rfl (by decide +kernel) ⟨Nat.le_of_ble_eq_true rfl, Nat.le_of_ble_eq_true rfl⟩) hS nA_i [] rfl rfl hl.1 (Nat.le_of_ble_eq_true rfl) dX5_feeder_7 ⟨Nat.le_of_ble_eq_true rfl, Nat.le_of_ble_eq_true rfl⟩ (fun H2 locs hp hzH2 hkH2 hS => ?_)
  obtain rfl := hp
  refine lv_aload_n hx hb dX5_feeder_10 rfl (lv_at hl 0 rfl) ?_
  refine dp_get hx hb hts (dp_hin 66 rfl) hown hK hD.1 rfl 4 (by decide) (hts (.fieldLink RX5 25 "DroopBoard" "history" "LDroopBoard$History;") (List.mem_of_getElem? (i := 1) rfl)) rfl dX5_feeder_11 ?_
  refine lv_aload_n hx hb dX5_feeder_14 rfl (lv_at hl 0 rfl) ?_
  refine dp_get hx hb hts (dp_hin 66 rfl) hown hK hD.1 rfl 0 (by decide) (hts (.fieldLink RX5 10 "DroopBoard" "board" "LDroopBoard$Board;") (List.mem_of_getElem? (i := 2) rfl)) rfl dX5_feeder_15 ?_
  refine dp_Vv hF hK hN (c_X3_save l D G (hh α) (sB α) w sv n (aB α 0) R _ hD.2.2.2.2.1 (hap_a hα) hw hD.2.1 (sB_b hα) hbz (hh_b hα) hn6) (cwV 1 hts gX5_feeder_X3_save rfl rfl rfl (by decide +kernel) ⟨Nat.le_of_ble_eq_true rfl, Nat.le_of_ble_eq_true rfl⟩) (dp_recv hK hD.2.2.2.2.1.1 rfl) hS A5_h [] rfl rfl hl.1 (Nat.le_of_ble_eq_true rfl) dX5_feeder_18 ⟨Nat.le_of_ble_eq_true rfl, Nat.le_of_ble_eq_true rfl⟩ (fun H3 locs hp hzH3 hkH3 hS => ?_)
  obtain ⟨hz9, w, hw, hI9⟩ := hp
  have hD := hD.hist hα hI9 (fun q hq => hq) hkH3
  refine lv_aload_n hx hb dX5_feeder_21 rfl (lv_at hl 0 rfl) ?_
  refine dp_get hx hb hts (dp_hin 66 rfl) hown hK hD.1 rfl 0 (by decide) (hts (.fieldLink RX5 10 "DroopBoard" "board" "LDroopBoard$Board;") (List.mem_of_getElem? (i := 2) rfl)) rfl dX5_feeder_22 ?_
  refine dp_get hx hb hts (dp_hin 72 rfl) hown hK hD.2.1.1 rfl 1 (by decide) (hts (.fieldLink RX5 119 "DroopBoard$Board" "feeders" "[LDroopBoard$Feeder;") (List.mem_of_getElem? (i := 3) rfl)) rfl dX5_feeder_25 ?_
  refine lv_iload_n hx hb dX5_feeder_28 rfl (lv_at hl 1 rfl) ?_
  refine dp_aald hx hb hK hD.2.1.2.2.1 2 rfl j rfl hj (by decide) rfl dX5_feeder_29 ?_
  refine dp_get hx hb hts (dp_hin 77 rfl) hown hK (hD.2.1.2.2.2.2.2 j hj) rfl 1 (by decide) (hts (.fieldLink RX5 128 "DroopBoard$Feeder" "on" "Z") (List.mem_of_getElem? (i := 4) rfl)) rfl dX5_feeder_30 ?_
  refine dp_Si hF hK hN (c_X5_oneIf l D G (R (39 + 3 * j)) _) (va_cwS 1 hts gX5_feeder_X5_oneIf rfl rfl rfl (by decide +kernel) ⟨Nat.le_of_ble_eq_true rfl, Nat.le_of_ble_eq_true rfl⟩) hS nA_i [] rfl rfl hl.1 (Nat.le_of_ble_eq_true rfl) dX5_feeder_33 ⟨Nat.le_of_ble_eq_true rfl, Nat.le_of_ble_eq_true rfl⟩ (fun rH4 H4 locs hp hzH4 hkH4 hS => ?_)
  obtain ⟨rfl, rfl⟩ := hp
  refine lv_istore_n (lv' := [(3, .int ((if R (39 + 3 * j) = 0 then 0 else 1))), (0, .ref (α 0)), (1, .int (nI j)), (2, .int v)]) hx hb dX5_feeder_36 rfl hl (by decide) rfl (fun ls hl => ?_)
  refine lv_aload_n hx hb dX5_feeder_37 rfl (lv_at hl 1 rfl) ?_
  refine dp_get hx hb hts (dp_hin 66 rfl) hown hK hD.1 rfl 0 (by decide) (hts (.fieldLink RX5 10 "DroopBoard" "board" "LDroopBoard$Board;") (List.mem_of_getElem? (i := 2) rfl)) rfl dX5_feeder_38 ?_
  refine dp_get hx hb hts (dp_hin 72 rfl) hown hK hD.2.1.1 rfl 1 (by decide) (hts (.fieldLink RX5 119 "DroopBoard$Board" "feeders" "[LDroopBoard$Feeder;") (List.mem_of_getElem? (i := 3) rfl)) rfl dX5_feeder_41 ?_
  refine lv_iload_n hx hb dX5_feeder_44 rfl (lv_at hl 2 rfl) ?_
  refine dp_aald hx hb hK hD.2.1.2.2.1 2 rfl j rfl hj (by decide) rfl dX5_feeder_45 ?_
  refine lv_iload_n hx hb dX5_feeder_46 rfl (lv_at hl 3 rfl) ?_
  refine lv_iconst (v := 1) hx hb dX5_feeder_47 (by decide) ?_
  refine lv_icmp_ne (tgt := 55) hx hb dX5_feeder_48 (by decide) (fun c1 => ?_) (fun c1 => ?_)
  · obtain rfl : v = 0 := v0_of hv c1
    refine lv_iconst (v := 0) hx hb dX5_feeder_55 (by decide) ?_
    refine dp_put (A := A5 α) (v := .int 0) hx hb hts (dp_hin 77 rfl) tyX2 tyX2_ok nmX2 hown hK (hD.2.1.2.2.2.2.2 j hj) (A5_b (j := 0) (by omega) _ ⟨7 + j, by omega, rfl⟩) hS rfl 1 (by decide) (hts (.fieldLink RX5 128 "DroopBoard$Feeder" "on" "Z") (List.mem_of_getElem? (i := 4) rfl)) rfl rfl rfl (Nat.le_of_ble_eq_true rfl) dX5_feeder_56 (fun H5 locs hH5 hzH5 hkH5 hS => ?_)
    have hB9 : BD D G (aB α 0) (upd R (39 + 3 * j) 0) H5 := BD.putF (k := 1) (by omega) hD.2.1 (aB_inj hα (by omega)) hj hH5 hkH5
    have hD := hD.board (A := fun q => q = (aB α 0) (7 + j)) hα hw hB9 (fun q hq => ⟨7 + j, by omega, hq⟩) (fun q _ hne => hkH5 q hne)
    refine lv_iload_n hx hb dX5_feeder_59 rfl (lv_at hl 0 rfl) ?_
    exact W.iret hx hb hr (fun t ht hW => ⟨⟨(if R (39 + 3 * j) = 0 then 0 else 1), H5, rfl, ⟨rfl, _, _, _, _, _, _, (svn_le hn6), hl6, w, _, hw, hD⟩, ht⟩, hS.F ht⟩) hS.2.2 dX5_feeder_60
  obtain rfl : v = 1 := by simpa using c1
  refine lv_iconst (v := 1) hx hb dX5_feeder_51 (by decide) ?_
  refine lv_goto (tgt := 56) hx hb dX5_feeder_52 (by decide) ?_
  refine dp_put (A := A5 α) (v := .int 1) hx hb hts (dp_hin 77 rfl) tyX2 tyX2_ok nmX2 hown hK (hD.2.1.2.2.2.2.2 j hj) (A5_b (j := 0) (by omega) _ ⟨7 + j, by omega, rfl⟩) hS rfl 1 (by decide) (hts (.fieldLink RX5 128 "DroopBoard$Feeder" "on" "Z") (List.mem_of_getElem? (i := 4) rfl)) rfl rfl rfl (Nat.le_of_ble_eq_true rfl) dX5_feeder_56 (fun H6 locs hH6 hzH6 hkH6 hS => ?_)
  have hB9 : BD D G (aB α 0) (upd R (39 + 3 * j) 1) H6 := BD.putF (k := 1) (by omega) hD.2.1 (aB_inj hα (by omega)) hj hH6 hkH6
  have hD := hD.board (A := fun q => q = (aB α 0) (7 + j)) hα hw hB9 (fun q hq => ⟨7 + j, by omega, hq⟩) (fun q _ hne => hkH6 q hne)
  refine lv_iload_n hx hb dX5_feeder_59 rfl (lv_at hl 0 rfl) ?_
  exact W.iret hx hb hr (fun t ht hW => ⟨⟨(if R (39 + 3 * j) = 0 then 0 else 1), H6, rfl, ⟨rfl, _, _, _, _, _, _, (svn_le hn6), hl6, w, _, hw, hD⟩, ht⟩, hS.F ht⟩) hS.2.2 dX5_feeder_60

set_option maxHeartbeats 600000 in
set_option maxRecDepth 100000 in
theorem n_X5_pass (l : Launch) (D : va_G) (G : Nat → ClassId) (α : Nat → Nat) (R : Nat → Int32) (j : Nat) (H : Heap) (hα : inj 115 α) (hO : OB D G α R H) (hg : gd R) (hj : 1 ≤ j ∧ j ≤ 99) : Met l yX5_pass wsX5_pass ({ frames := 5, cells := 0, slots := 0, locals := 115 } : Room) (va_Pc [.ref (α 0), .int (nI j)] (CX D G H)) (QI (A5 α) (fun r h => ptn R j = r ∧ OB D G α (pt R j) h)) 0 0 (A5 α) := by
  refine Met.ofW (cc := cX5_pass) (maxL := 2) (ret := (some .int)) (by decide) rfl ?_
  intro p e s m args below meth c s₁ B0 hml hv
  obtain ⟨rfl, rfl, hK, hN⟩ := hv
  have hx := B0.exec
  have hb := B0.bytes
  have hr := B0.returns
  have hts := atoms_spec (ws := wsX5_pass) B0.pre
  have hown : s.vm.findClass RX5 = some m.cls := findClass_of_methodNamed B0.named
  have hlocks := B0.notSynchronized
  have hF : CallFix p m c cX5_pass 2 s ([.ref (α 0), .int (nI j)] : List Value).toArray wsX5_pass RX5 := ⟨hx, hb, hml, hown, hts⟩
  have hS : va_S (A5 α) s.heap s.heap [] := va_S.rf
  have hl := lv_entry ([.ref (α 0), .int (nI j)]) (n := 2) (Nat.le_of_ble_eq_true rfl)
  rw [lg_entry_eq]
  generalize (lg_sl ([.ref (α 0), .int (nI j)]) ++ List.replicate (2 - (lg_sl ([.ref (α 0), .int (nI j)])).length) Slot.unset).toArray = ls at hl ⊢
  have hl : lv_has ls 2 [(0, .ref (α 0)), (1, .int (nI j))] := hl
  obtain ⟨RS, kp, sv, n, F, len, hn6, hl6, w, RT, hw, hD⟩ := hO
  have hbz := gd_bz hg
  have hm := gd_mono hg
  have hmp : ∀ k, k < 99 → mono (pt R k) := fun k _ => gd_mono (gd_pt hg k)
  refine lv_iload_n hx hb dX5_pass_0 rfl (lv_at hl 1 rfl) ?_
  refine lv_iconst (v := 1) hx hb dX5_pass_1 (by decide) ?_
  refine lv_bipush (v := 99) hx hb dX5_pass_2 (by decide) ?_
  refine dp_Sv hF hK hN (n_X5_needRange l D G (nI j) 1 99 _ ⟨nI_nlt (a := j) (b := 1) hj.1 (by omega), nI_nlt (a := 99) (b := j) hj.2 (by omega)⟩) (va_cwS 3 hts gX5_pass_X5_needRange rfl rfl rfl (by decide +kernel) ⟨Nat.le_of_ble_eq_true rfl, Nat.le_of_ble_eq_true rfl⟩) hS nA_i [] rfl rfl hl.1 (Nat.le_of_ble_eq_true rfl) dX5_pass_4 ⟨Nat.le_of_ble_eq_true rfl, Nat.le_of_ble_eq_true rfl⟩ (fun H1 locs hp hzH1 hkH1 hS => ?_)
  obtain rfl := hp
  refine lv_aload_n hx hb dX5_pass_7 rfl (lv_at hl 0 rfl) ?_
  refine dp_get hx hb hts (dp_hin 128 rfl) hown hK hD.1 rfl 4 (by decide) (hts (.fieldLink RX5 25 "DroopBoard" "history" "LDroopBoard$History;") (List.mem_of_getElem? (i := 1) rfl)) rfl dX5_pass_8 ?_
  refine lv_aload_n hx hb dX5_pass_11 rfl (lv_at hl 0 rfl) ?_
  refine dp_get hx hb hts (dp_hin 128 rfl) hown hK hD.1 rfl 0 (by decide) (hts (.fieldLink RX5 10 "DroopBoard" "board" "LDroopBoard$Board;") (List.mem_of_getElem? (i := 2) rfl)) rfl dX5_pass_12 ?_
  refine dp_Vv hF hK hN (c_X3_save l D G (hh α) (sB α) w sv n (aB α 0) R _ hD.2.2.2.2.1 (hap_a hα) hw hD.2.1 (sB_b hα) hbz (hh_b hα) hn6) (cwV 1 hts gX5_pass_X3_save rfl rfl rfl (by decide +kernel) ⟨Nat.le_of_ble_eq_true rfl, Nat.le_of_ble_eq_true rfl⟩) (dp_recv hK hD.2.2.2.2.1.1 rfl) hS A5_h [] rfl rfl hl.1 (Nat.le_of_ble_eq_true rfl) dX5_pass_15 ⟨Nat.le_of_ble_eq_true rfl, Nat.le_of_ble_eq_true rfl⟩ (fun H2 locs hp hzH2 hkH2 hS => ?_)
  obtain ⟨hz9, w, hw, hI9⟩ := hp
  have hD := hD.hist hα hI9 (fun q hq => hq) hkH2
  refine lv_aload_n hx hb dX5_pass_18 rfl (lv_at hl 0 rfl) ?_
  refine dp_get hx hb hts (dp_hin 128 rfl) hown hK hD.1 rfl 0 (by decide) (hts (.fieldLink RX5 10 "DroopBoard" "board" "LDroopBoard$Board;") (List.mem_of_getElem? (i := 2) rfl)) rfl dX5_pass_19 ?_
  refine lv_iload_n hx hb dX5_pass_22 rfl (lv_at hl 1 rfl) ?_
  refine dp_Vi hF hK hN (c_X0_passTicks l D G (aB α 0) R j _ hD.2.1 (aB_inj hα (by omega)) (by omega) (fun k hk => hmp k (by omega))) (cwV 1 hts gX5_pass_X0_passTicks rfl rfl rfl (by decide +kernel) ⟨Nat.le_of_ble_eq_true rfl, Nat.le_of_ble_eq_true rfl⟩) (dp_recv hK hD.2.1.1 rfl) hS (A5_b (by omega)) [] rfl rfl hl.1 (Nat.le_of_ble_eq_true rfl) dX5_pass_23 ⟨Nat.le_of_ble_eq_true rfl, Nat.le_of_ble_eq_true rfl⟩ (fun rH3 H3 locs hp hzH3 hkH3 hS => ?_)
  obtain ⟨hz9, hB9, rfl⟩ := hp
  have hD := hD.board hα hw hB9 (fun q hq => hq) hkH3
  exact W.iret hx hb hr (fun t ht hW => ⟨⟨ptn R j, H3, rfl, ⟨rfl, _, _, _, _, _, _, (svn_le hn6), hl6, w, _, hw, hD⟩, ht⟩, hS.F ht⟩) hS.2.2 dX5_pass_26

set_option maxHeartbeats 600000 in
set_option maxRecDepth 100000 in
theorem n_X5_set (l : Launch) (D : va_G) (G : Nat → ClassId) (α : Nat → Nat) (R : Nat → Int32) (j : Nat) (v : Int32) (H : Heap) (hα : inj 115 α) (hO : OB D G α R H) (hg : gd R) (hj : j < 4) (h1 : ¬ v < lst j ∧ ¬ mst j < v) : Met l yX5_set wsX5_set ({ frames := 3, cells := 0, slots := 0, locals := 64 } : Room) (va_Pc [.ref (α 0), .int (nI j), .int v] (CS D G (A5 α) H)) (QI (A5 α) (fun r h => R j = r ∧ OB D G α (upd R j v) h)) 0 0 (A5 α) := by
  refine Met.ofW (cc := cX5_set) (maxL := 4) (ret := (some .int)) (by decide) rfl ?_
  intro p e s m args below meth c s₁ B0 hml hv
  obtain ⟨rfl, ⟨rfl, hK, hN⟩, hZ⟩ := hv
  have hx := B0.exec
  have hb := B0.bytes
  have hr := B0.returns
  have hts := atoms_spec (ws := wsX5_set) B0.pre
  have hown : s.vm.findClass RX5 = some m.cls := findClass_of_methodNamed B0.named
  have hlocks := B0.notSynchronized
  have hF : CallFix p m c cX5_set 4 s ([.ref (α 0), .int (nI j), .int v] : List Value).toArray wsX5_set RX5 := ⟨hx, hb, hml, hown, hts⟩
  have hS : va_S (A5 α) s.heap s.heap [] := va_S.rf
  have hl := lv_entry ([.ref (α 0), .int (nI j), .int v]) (n := 4) (Nat.le_of_ble_eq_true rfl)
  rw [lg_entry_eq]
  generalize (lg_sl ([.ref (α 0), .int (nI j), .int v]) ++ List.replicate (4 - (lg_sl ([.ref (α 0), .int (nI j), .int v])).length) Slot.unset).toArray = ls at hl ⊢
  have hl : lv_has ls 4 [(0, .ref (α 0)), (1, .int (nI j)), (2, .int v)] := hl
  obtain ⟨RS, kp, sv, n, F, len, hn6, hl6, w, RT, hw, hD⟩ := hO
  have hbz := gd_bz hg
  have hm := gd_mono hg
  obtain ⟨⟨tL, hL1, hL2⟩, tM, hM1, hM2⟩ := hZ
  refine lv_iload_n hx hb dX5_set_0 rfl (lv_at hl 1 rfl) ?_
  refine dp_Sv hF hK hN (n_X5_needSetting l D G j _ hj) (va_cwS 1 hts gX5_set_X5_needSetting rfl rfl rfl (by decide +kernel) ⟨Nat.le_of_ble_eq_true rfl, Nat.le_of_ble_eq_true rfl⟩) hS nA_i [] rfl rfl hl.1 (Nat.le_of_ble_eq_true rfl) dX5_set_1 ⟨Nat.le_of_ble_eq_true rfl, Nat.le_of_ble_eq_true rfl⟩ (fun H1 locs hp hzH1 hkH1 hS => ?_)
  obtain rfl := hp
  refine lv_iload_n hx hb dX5_set_4 rfl (lv_at hl 2 rfl) ?_
  refine va_gets (C := RX5) (n := "LEAST_OF_SETTING") (d := "[I") hx hb hL1 hS hown (hts (.fieldLink RX5 141 "DroopBoard" "LEAST_OF_SETTING" "[I") (List.mem_of_getElem? (i := 1) rfl)) (fun _ h => h) dX5_set_5 ?_
  refine lv_iload_n hx hb dX5_set_8 rfl (lv_at hl 1 rfl) ?_
  refine va_ti (v := .int (lst j)) hx hb hL2 hS (i := nI j) (vp_in_nI hj (by decide)) (by rw [nI_clamp (by omega)]) dX5_set_9 ?_
  refine va_gets (C := RX5) (n := "MOST_OF_SETTING") (d := "[I") hx hb hM1 hS hown (hts (.fieldLink RX5 145 "DroopBoard" "MOST_OF_SETTING" "[I") (List.mem_of_getElem? (i := 2) rfl)) (fun _ h => h) dX5_set_10 ?_
  refine lv_iload_n hx hb dX5_set_13 rfl (lv_at hl 1 rfl) ?_
  refine va_ti (v := .int (mst j)) hx hb hM2 hS (i := nI j) (vp_in_nI hj (by decide)) (by rw [nI_clamp (by omega)]) dX5_set_14 ?_
  refine dp_Sv hF hK hN (n_X5_needRange l D G v (lst j) (mst j) _ h1) (va_cwS 3 hts gX5_set_X5_needRange rfl rfl rfl (by decide +kernel) ⟨Nat.le_of_ble_eq_true rfl, Nat.le_of_ble_eq_true rfl⟩) hS nA_i [] rfl rfl hl.1 (Nat.le_of_ble_eq_true rfl) dX5_set_15 ⟨Nat.le_of_ble_eq_true rfl, Nat.le_of_ble_eq_true rfl⟩ (fun H2 locs hp hzH2 hkH2 hS => ?_)
  obtain rfl := hp
  refine lv_aload_n hx hb dX5_set_18 rfl (lv_at hl 0 rfl) ?_
  refine dp_get hx hb hts (dp_hin 61 rfl) hown hK hD.1 rfl 4 (by decide) (hts (.fieldLink RX5 25 "DroopBoard" "history" "LDroopBoard$History;") (List.mem_of_getElem? (i := 3) rfl)) rfl dX5_set_19 ?_
  refine lv_aload_n hx hb dX5_set_22 rfl (lv_at hl 0 rfl) ?_
  refine dp_get hx hb hts (dp_hin 61 rfl) hown hK hD.1 rfl 0 (by decide) (hts (.fieldLink RX5 10 "DroopBoard" "board" "LDroopBoard$Board;") (List.mem_of_getElem? (i := 4) rfl)) rfl dX5_set_23 ?_
  refine dp_Vv hF hK hN (c_X3_save l D G (hh α) (sB α) w sv n (aB α 0) R _ hD.2.2.2.2.1 (hap_a hα) hw hD.2.1 (sB_b hα) hbz (hh_b hα) hn6) (cwV 1 hts gX5_set_X3_save rfl rfl rfl (by decide +kernel) ⟨Nat.le_of_ble_eq_true rfl, Nat.le_of_ble_eq_true rfl⟩) (dp_recv hK hD.2.2.2.2.1.1 rfl) hS A5_h [] rfl rfl hl.1 (Nat.le_of_ble_eq_true rfl) dX5_set_26 ⟨Nat.le_of_ble_eq_true rfl, Nat.le_of_ble_eq_true rfl⟩ (fun H3 locs hp hzH3 hkH3 hS => ?_)
  obtain ⟨hz9, w, hw, hI9⟩ := hp
  have hD := hD.hist hα hI9 (fun q hq => hq) hkH3
  refine lv_aload_n hx hb dX5_set_29 rfl (lv_at hl 0 rfl) ?_
  refine dp_get hx hb hts (dp_hin 61 rfl) hown hK hD.1 rfl 0 (by decide) (hts (.fieldLink RX5 10 "DroopBoard" "board" "LDroopBoard$Board;") (List.mem_of_getElem? (i := 4) rfl)) rfl dX5_set_30 ?_
  refine dp_get hx hb hts (dp_hin 67 rfl) hown hK hD.2.1.1 rfl 2 (by decide) (hts (.fieldLink RX5 148 "DroopBoard$Board" "settings" "[I") (List.mem_of_getElem? (i := 5) rfl)) rfl dX5_set_33 ?_
  refine lv_iload_n hx hb dX5_set_36 rfl (lv_at hl 1 rfl) ?_
  refine dp_iald hx hb hK hD.2.1.2.2.2.1 0 rfl j rfl hj (by decide) dX5_set_37 ?_
  refine lv_istore_n (lv' := [(3, .int (R j)), (0, .ref (α 0)), (1, .int (nI j)), (2, .int v)]) hx hb dX5_set_38 rfl hl (by decide) rfl (fun ls hl => ?_)
  refine lv_aload_n hx hb dX5_set_39 rfl (lv_at hl 1 rfl) ?_
  refine dp_get hx hb hts (dp_hin 61 rfl) hown hK hD.1 rfl 0 (by decide) (hts (.fieldLink RX5 10 "DroopBoard" "board" "LDroopBoard$Board;") (List.mem_of_getElem? (i := 4) rfl)) rfl dX5_set_40 ?_
  refine dp_get hx hb hts (dp_hin 67 rfl) hown hK hD.2.1.1 rfl 2 (by decide) (hts (.fieldLink RX5 148 "DroopBoard$Board" "settings" "[I") (List.mem_of_getElem? (i := 5) rfl)) rfl dX5_set_43 ?_
  refine lv_iload_n hx hb dX5_set_46 rfl (lv_at hl 2 rfl) ?_
  refine lv_iload_n hx hb dX5_set_47 rfl (lv_at hl 3 rfl) ?_
  refine dp_iast (A := A5 α) hx hb hK hD.2.1.2.2.2.1 (A5_b (j := 0) (by omega) _ ⟨3, by omega, rfl⟩) hS 0 rfl j rfl hj (by decide) dX5_set_48 (fun H4 locs hH4 hzH4 hkH4 hS => ?_)
  have hB9 : BD D G (aB α 0) (upd R j v) H4 := BD.putS hj hD.2.1 (aB_inj hα (by omega)) hH4 hkH4
  have hD := hD.board (A := fun q => q = (aB α 0) 3) hα hw hB9 (fun q hq => ⟨3, by omega, hq⟩) (fun q _ hne => hkH4 q hne)
  refine lv_iload_n hx hb dX5_set_49 rfl (lv_at hl 0 rfl) ?_
  exact W.iret hx hb hr (fun t ht hW => ⟨⟨R j, H4, rfl, ⟨rfl, _, _, _, _, _, _, (svn_le hn6), hl6, w, _, hw, hD⟩, ht⟩, hS.F ht⟩) hS.2.2 dX5_set_50

set_option maxHeartbeats 600000 in
set_option maxRecDepth 100000 in
theorem n_X5_diesel (l : Launch) (D : va_G) (G : Nat → ClassId) (α : Nat → Nat) (R : Nat → Int32) (j : Nat) (q : Int32) (H : Heap) (hα : inj 115 α) (hO : OB D G α R H) (hg : gd R) (hj : j < 3) (h1 : ¬ q < 0 ∧ ¬ 12 < q) : Met l yX5_diesel wsX5_diesel ({ frames := 5, cells := 0, slots := 0, locals := 114 } : Room) (va_Pc [.ref (α 0), .int (nI j), .int q] (CX D G H)) (QI (A5 α) (fun r h => tset R j q = r ∧ OB D G α R h)) 0 0 (A5 α) := by
  refine Met.ofW (cc := cX5_diesel) (maxL := 3) (ret := (some .int)) (by decide) rfl ?_
  intro p e s m args below meth c s₁ B0 hml hv
  obtain ⟨rfl, rfl, hK, hN⟩ := hv
  have hx := B0.exec
  have hb := B0.bytes
  have hr := B0.returns
  have hts := atoms_spec (ws := wsX5_diesel) B0.pre
  have hown : s.vm.findClass RX5 = some m.cls := findClass_of_methodNamed B0.named
  have hlocks := B0.notSynchronized
  have hF : CallFix p m c cX5_diesel 3 s ([.ref (α 0), .int (nI j), .int q] : List Value).toArray wsX5_diesel RX5 := ⟨hx, hb, hml, hown, hts⟩
  have hS : va_S (A5 α) s.heap s.heap [] := va_S.rf
  have hl := lv_entry ([.ref (α 0), .int (nI j), .int q]) (n := 3) (Nat.le_of_ble_eq_true rfl)
  rw [lg_entry_eq]
  generalize (lg_sl ([.ref (α 0), .int (nI j), .int q]) ++ List.replicate (3 - (lg_sl ([.ref (α 0), .int (nI j), .int q])).length) Slot.unset).toArray = ls at hl ⊢
  have hl : lv_has ls 3 [(0, .ref (α 0)), (1, .int (nI j)), (2, .int q)] := hl
  obtain ⟨RS, kp, sv, n, F, len, hn6, hl6, w, RT, hw, hD⟩ := hO
  have hbz := gd_bz hg
  have hm := gd_mono hg
  refine lv_iload_n hx hb dX5_diesel_0 rfl (lv_at hl 1 rfl) ?_
  refine dp_Sv hF hK hN (n_X5_needSet l D G j _ hj) (va_cwS 1 hts gX5_diesel_X5_needSet rfl rfl rfl (by decide +kernel) ⟨Nat.le_of_ble_eq_true rfl, Nat.le_of_ble_eq_true rfl⟩) hS nA_i [] rfl rfl hl.1 (Nat.le_of_ble_eq_true rfl) dX5_diesel_1 ⟨Nat.le_of_ble_eq_true rfl, Nat.le_of_ble_eq_true rfl⟩ (fun H1 locs hp hzH1 hkH1 hS => ?_)
  obtain rfl := hp
  refine lv_iload_n hx hb dX5_diesel_4 rfl (lv_at hl 2 rfl) ?_
  refine lv_iconst (v := 0) hx hb dX5_diesel_5 (by decide) ?_
  refine lv_bipush (v := 12) hx hb dX5_diesel_6 (by decide) ?_
  refine dp_Sv hF hK hN (n_X5_needRange l D G q 0 12 _ h1) (va_cwS 3 hts gX5_diesel_X5_needRange rfl rfl rfl (by decide +kernel) ⟨Nat.le_of_ble_eq_true rfl, Nat.le_of_ble_eq_true rfl⟩) hS nA_i [] rfl rfl hl.1 (Nat.le_of_ble_eq_true rfl) dX5_diesel_8 ⟨Nat.le_of_ble_eq_true rfl, Nat.le_of_ble_eq_true rfl⟩ (fun H2 locs hp hzH2 hkH2 hS => ?_)
  obtain rfl := hp
  refine lv_aload_n hx hb dX5_diesel_11 rfl (lv_at hl 0 rfl) ?_
  refine lv_iload_n hx hb dX5_diesel_12 rfl (lv_at hl 1 rfl) ?_
  refine lv_iload_n hx hb dX5_diesel_13 rfl (lv_at hl 2 rfl) ?_
  refine dp_Vi hF hK hN (c_X5_tellOfSet l D G α w R RT RS kp sv n F len j q _ hα hw hD hbz hm hn6 hl6 hj) (cwV 2 hts gX5_diesel_X5_tellOfSet rfl rfl rfl (by decide +kernel) ⟨Nat.le_of_ble_eq_true rfl, Nat.le_of_ble_eq_true rfl⟩) (dp_recv hK hD.1 rfl) hS nA_i [] rfl rfl hl.1 (Nat.le_of_ble_eq_true rfl) dX5_diesel_14 ⟨Nat.le_of_ble_eq_true rfl, Nat.le_of_ble_eq_true rfl⟩ (fun rH3 H3 locs hp hzH3 hkH3 hS => ?_)
  obtain ⟨rfl, rfl⟩ := hp
  exact W.iret hx hb hr (fun t ht hW => ⟨⟨tset R j q, s.heap, rfl, ⟨rfl, _, _, _, _, _, _, hn6, hl6, w, _, hw, hD⟩, ht⟩, hS.F ht⟩) hS.2.2 dX5_diesel_17

set_option maxHeartbeats 600000 in
set_option maxRecDepth 100000 in
theorem n_X5_line (l : Launch) (D : va_G) (G : Nat → ClassId) (α : Nat → Nat) (R : Nat → Int32) (j : Nat) (q : Int32) (H : Heap) (hα : inj 115 α) (hO : OB D G α R H) (hg : gd R) (hj : j < 4) (h1 : ¬ q < 0 ∧ ¬ 2 < q) : Met l yX5_line wsX5_line ({ frames := 2, cells := 0, slots := 0, locals := 42 } : Room) (va_Pc [.ref (α 0), .int (nI j), .int q] (CX D G H)) (QI (A5 α) (fun r h => tfee R j q = r ∧ OB D G α R h)) 0 0 (A5 α) := by
  refine Met.ofW (cc := cX5_line) (maxL := 3) (ret := (some .int)) (by decide) rfl ?_
  intro p e s m args below meth c s₁ B0 hml hv
  obtain ⟨rfl, rfl, hK, hN⟩ := hv
  have hx := B0.exec
  have hb := B0.bytes
  have hr := B0.returns
  have hts := atoms_spec (ws := wsX5_line) B0.pre
  have hown : s.vm.findClass RX5 = some m.cls := findClass_of_methodNamed B0.named
  have hlocks := B0.notSynchronized
  have hF : CallFix p m c cX5_line 3 s ([.ref (α 0), .int (nI j), .int q] : List Value).toArray wsX5_line RX5 := ⟨hx, hb, hml, hown, hts⟩
  have hS : va_S (A5 α) s.heap s.heap [] := va_S.rf
  have hl := lv_entry ([.ref (α 0), .int (nI j), .int q]) (n := 3) (Nat.le_of_ble_eq_true rfl)
  rw [lg_entry_eq]
  generalize (lg_sl ([.ref (α 0), .int (nI j), .int q]) ++ List.replicate (3 - (lg_sl ([.ref (α 0), .int (nI j), .int q])).length) Slot.unset).toArray = ls at hl ⊢
  have hl : lv_has ls 3 [(0, .ref (α 0)), (1, .int (nI j)), (2, .int q)] := hl
  obtain ⟨RS, kp, sv, n, F, len, hn6, hl6, w, RT, hw, hD⟩ := hO
  have hbz := gd_bz hg
  have hm := gd_mono hg
  refine lv_iload_n hx hb dX5_line_0 rfl (lv_at hl 1 rfl) ?_
  refine dp_Sv hF hK hN (n_X5_needFeeder l D G j _ hj) (va_cwS 1 hts gX5_line_X5_needFeeder rfl rfl rfl (by decide +kernel) ⟨Nat.le_of_ble_eq_true rfl, Nat.le_of_ble_eq_true rfl⟩) hS nA_i [] rfl rfl hl.1 (Nat.le_of_ble_eq_true rfl) dX5_line_1 ⟨Nat.le_of_ble_eq_true rfl, Nat.le_of_ble_eq_true rfl⟩ (fun H1 locs hp hzH1 hkH1 hS => ?_)
  obtain rfl := hp
  refine lv_iload_n hx hb dX5_line_4 rfl (lv_at hl 2 rfl) ?_
  refine lv_iconst (v := 0) hx hb dX5_line_5 (by decide) ?_
  refine lv_iconst (v := 2) hx hb dX5_line_6 (by decide) ?_
  refine dp_Sv hF hK hN (n_X5_needRange l D G q 0 2 _ h1) (va_cwS 3 hts gX5_line_X5_needRange rfl rfl rfl (by decide +kernel) ⟨Nat.le_of_ble_eq_true rfl, Nat.le_of_ble_eq_true rfl⟩) hS nA_i [] rfl rfl hl.1 (Nat.le_of_ble_eq_true rfl) dX5_line_7 ⟨Nat.le_of_ble_eq_true rfl, Nat.le_of_ble_eq_true rfl⟩ (fun H2 locs hp hzH2 hkH2 hS => ?_)
  obtain rfl := hp
  refine lv_aload_n hx hb dX5_line_10 rfl (lv_at hl 0 rfl) ?_
  refine lv_iload_n hx hb dX5_line_11 rfl (lv_at hl 1 rfl) ?_
  refine lv_iload_n hx hb dX5_line_12 rfl (lv_at hl 2 rfl) ?_
  refine dp_Vi hF hK hN (c_X5_tellOfFeeder l D G α w R RT RS kp sv n F len j q _ hα hw hD hbz hm hn6 hl6 hj) (cwV 2 hts gX5_line_X5_tellOfFeeder rfl rfl rfl (by decide +kernel) ⟨Nat.le_of_ble_eq_true rfl, Nat.le_of_ble_eq_true rfl⟩) (dp_recv hK hD.1 rfl) hS nA_i [] rfl rfl hl.1 (Nat.le_of_ble_eq_true rfl) dX5_line_13 ⟨Nat.le_of_ble_eq_true rfl, Nat.le_of_ble_eq_true rfl⟩ (fun rH3 H3 locs hp hzH3 hkH3 hS => ?_)
  obtain ⟨rfl, rfl⟩ := hp
  exact W.iret hx hb hr (fun t ht hW => ⟨⟨tfee R j q, s.heap, rfl, ⟨rfl, _, _, _, _, _, _, hn6, hl6, w, _, hw, hD⟩, ht⟩, hS.F ht⟩) hS.2.2 dX5_line_16

set_option maxHeartbeats 600000 in
set_option maxRecDepth 100000 in
theorem n_X5_count (l : Launch) (D : va_G) (G : Nat → ClassId) (α : Nat → Nat) (R : Nat → Int32) (j : Nat) (H : Heap) (hα : inj 115 α) (hO : OB D G α R H) (hg : gd R) (hj : j < 11) : Met l yX5_count wsX5_count ({ frames := 5, cells := 0, slots := 0, locals := 111 } : Room) (va_Pc [.ref (α 0), .int (nI j)] (CX D G H)) (QI (A5 α) (fun r h => tcnt R 0 (nI j) = r ∧ OB D G α R h)) 0 0 (A5 α) := by
  refine Met.ofW (cc := cX5_count) (maxL := 2) (ret := (some .int)) (by decide) rfl ?_
  intro p e s m args below meth c s₁ B0 hml hv
  obtain ⟨rfl, rfl, hK, hN⟩ := hv
  have hx := B0.exec
  have hb := B0.bytes
  have hr := B0.returns
  have hts := atoms_spec (ws := wsX5_count) B0.pre
  have hown : s.vm.findClass RX5 = some m.cls := findClass_of_methodNamed B0.named
  have hlocks := B0.notSynchronized
  have hF : CallFix p m c cX5_count 2 s ([.ref (α 0), .int (nI j)] : List Value).toArray wsX5_count RX5 := ⟨hx, hb, hml, hown, hts⟩
  have hS : va_S (A5 α) s.heap s.heap [] := va_S.rf
  have hl := lv_entry ([.ref (α 0), .int (nI j)]) (n := 2) (Nat.le_of_ble_eq_true rfl)
  rw [lg_entry_eq]
  generalize (lg_sl ([.ref (α 0), .int (nI j)]) ++ List.replicate (2 - (lg_sl ([.ref (α 0), .int (nI j)])).length) Slot.unset).toArray = ls at hl ⊢
  have hl : lv_has ls 2 [(0, .ref (α 0)), (1, .int (nI j))] := hl
  obtain ⟨RS, kp, sv, n, F, len, hn6, hl6, w, RT, hw, hD⟩ := hO
  have hbz := gd_bz hg
  have hm := gd_mono hg
  refine lv_iload_n hx hb dX5_count_0 rfl (lv_at hl 1 rfl) ?_
  refine lv_iconst (v := 0) hx hb dX5_count_1 (by decide) ?_
  refine lv_bipush (v := 11) hx hb dX5_count_2 (by decide) ?_
  refine dp_Sv hF hK hN (n_X5_needRange l D G (nI j) 0 11 _ ⟨nI_pos (by omega), nI_nlt (a := 11) (b := j) (by omega) (by omega)⟩) (va_cwS 3 hts gX5_count_X5_needRange rfl rfl rfl (by decide +kernel) ⟨Nat.le_of_ble_eq_true rfl, Nat.le_of_ble_eq_true rfl⟩) hS nA_i [] rfl rfl hl.1 (Nat.le_of_ble_eq_true rfl) dX5_count_4 ⟨Nat.le_of_ble_eq_true rfl, Nat.le_of_ble_eq_true rfl⟩ (fun H1 locs hp hzH1 hkH1 hS => ?_)
  obtain rfl := hp
  refine lv_aload_n hx hb dX5_count_7 rfl (lv_at hl 0 rfl) ?_
  refine lv_iload_n hx hb dX5_count_8 rfl (lv_at hl 1 rfl) ?_
  refine dp_Vi hF hK hN (c_X5_tellCount l D G α w R RT RS kp sv n F len (nI j) _ hα hw hD hbz hm hn6 hl6 ) (cwV 1 hts gX5_count_X5_tellCount rfl rfl rfl (by decide +kernel) ⟨Nat.le_of_ble_eq_true rfl, Nat.le_of_ble_eq_true rfl⟩) (dp_recv hK hD.1 rfl) hS nA_i [] rfl rfl hl.1 (Nat.le_of_ble_eq_true rfl) dX5_count_9 ⟨Nat.le_of_ble_eq_true rfl, Nat.le_of_ble_eq_true rfl⟩ (fun rH2 H2 locs hp hzH2 hkH2 hS => ?_)
  obtain ⟨rfl, rfl⟩ := hp
  exact W.iret hx hb hr (fun t ht hW => ⟨⟨tcnt R n (nI j), s.heap, rfl, ⟨(tcnt_n hj).symm, _, _, _, _, _, _, hn6, hl6, w, _, hw, hD⟩, ht⟩, hS.F ht⟩) hS.2.2 dX5_count_12

set_option maxHeartbeats 600000 in
set_option maxRecDepth 100000 in
theorem n_X5_setting (l : Launch) (D : va_G) (G : Nat → ClassId) (α : Nat → Nat) (R : Nat → Int32) (j : Nat) (H : Heap) (hα : inj 115 α) (hO : OB D G α R H) (hg : gd R) (hj : j < 4) : Met l yX5_setting wsX5_setting ({ frames := 2, cells := 0, slots := 0, locals := 40 } : Room) (va_Pc [.ref (α 0), .int (nI j)] (CX D G H)) (QI (A5 α) (fun r h => R j = r ∧ OB D G α R h)) 0 0 (A5 α) := by
  refine Met.ofW (cc := cX5_setting) (maxL := 2) (ret := (some .int)) (by decide) rfl ?_
  intro p e s m args below meth c s₁ B0 hml hv
  obtain ⟨rfl, rfl, hK, hN⟩ := hv
  have hx := B0.exec
  have hb := B0.bytes
  have hr := B0.returns
  have hts := atoms_spec (ws := wsX5_setting) B0.pre
  have hown : s.vm.findClass RX5 = some m.cls := findClass_of_methodNamed B0.named
  have hlocks := B0.notSynchronized
  have hF : CallFix p m c cX5_setting 2 s ([.ref (α 0), .int (nI j)] : List Value).toArray wsX5_setting RX5 := ⟨hx, hb, hml, hown, hts⟩
  have hS : va_S (A5 α) s.heap s.heap [] := va_S.rf
  have hl := lv_entry ([.ref (α 0), .int (nI j)]) (n := 2) (Nat.le_of_ble_eq_true rfl)
  rw [lg_entry_eq]
  generalize (lg_sl ([.ref (α 0), .int (nI j)]) ++ List.replicate (2 - (lg_sl ([.ref (α 0), .int (nI j)])).length) Slot.unset).toArray = ls at hl ⊢
  have hl : lv_has ls 2 [(0, .ref (α 0)), (1, .int (nI j))] := hl
  obtain ⟨RS, kp, sv, n, F, len, hn6, hl6, w, RT, hw, hD⟩ := hO
  have hbz := gd_bz hg
  have hm := gd_mono hg
  refine lv_iload_n hx hb dX5_setting_0 rfl (lv_at hl 1 rfl) ?_
  refine dp_Sv hF hK hN (n_X5_needSetting l D G j _ hj) (va_cwS 1 hts gX5_setting_X5_needSetting rfl rfl rfl (by decide +kernel) ⟨Nat.le_of_ble_eq_true rfl, Nat.le_of_ble_eq_true rfl⟩) hS nA_i [] rfl rfl hl.1 (Nat.le_of_ble_eq_true rfl) dX5_setting_1 ⟨Nat.le_of_ble_eq_true rfl, Nat.le_of_ble_eq_true rfl⟩ (fun H1 locs hp hzH1 hkH1 hS => ?_)
  obtain rfl := hp
  refine lv_aload_n hx hb dX5_setting_4 rfl (lv_at hl 0 rfl) ?_
  refine dp_get hx hb hts (dp_hin 9 rfl) hown hK hD.1 rfl 0 (by decide) (hts (.fieldLink RX5 10 "DroopBoard" "board" "LDroopBoard$Board;") (List.mem_of_getElem? (i := 1) rfl)) rfl dX5_setting_5 ?_
  refine dp_get hx hb hts (dp_hin 15 rfl) hown hK hD.2.1.1 rfl 2 (by decide) (hts (.fieldLink RX5 148 "DroopBoard$Board" "settings" "[I") (List.mem_of_getElem? (i := 2) rfl)) rfl dX5_setting_8 ?_
  refine lv_iload_n hx hb dX5_setting_11 rfl (lv_at hl 1 rfl) ?_
  refine dp_iald hx hb hK hD.2.1.2.2.2.1 0 rfl j rfl hj (by decide) dX5_setting_12 ?_
  exact W.iret hx hb hr (fun t ht hW => ⟨⟨R j, s.heap, rfl, ⟨rfl, _, _, _, _, _, _, hn6, hl6, w, _, hw, hD⟩, ht⟩, hS.F ht⟩) hS.2.2 dX5_setting_13

set_option maxHeartbeats 600000 in
set_option maxRecDepth 100000 in
theorem n_X5_ifSpeed (l : Launch) (D : va_G) (G : Nat → ClassId) (α : Nat → Nat) (R : Nat → Int32) (j : Nat) (v q : Int32) (H : Heap) (hα : inj 115 α) (hO : OB D G α R H) (hg : gd R) (hj : j < 3) (h1 : ¬ v < 4700 ∧ ¬ 5300 < v) (h2 : ¬ q < 0 ∧ ¬ 2 < q) (hm2 : mono (usp R j v)) : Met l yX5_ifSpeed wsX5_ifSpeed ({ frames := 4, cells := 0, slots := 0, locals := 93 } : Room) (va_Pc [.ref (α 0), .int (nI j), .int v, .int q] (CX D G H)) (QI (A5 α) (fun r h => tif R j v q = r ∧ OB D G α R h)) 0 0 (A5 α) := by
  refine Met.ofW (cc := cX5_ifSpeed) (maxL := 4) (ret := (some .int)) (by decide) rfl ?_
  intro p e s m args below meth c s₁ B0 hml hv
  obtain ⟨rfl, rfl, hK, hN⟩ := hv
  have hx := B0.exec
  have hb := B0.bytes
  have hr := B0.returns
  have hts := atoms_spec (ws := wsX5_ifSpeed) B0.pre
  have hown : s.vm.findClass RX5 = some m.cls := findClass_of_methodNamed B0.named
  have hlocks := B0.notSynchronized
  have hF : CallFix p m c cX5_ifSpeed 4 s ([.ref (α 0), .int (nI j), .int v, .int q] : List Value).toArray wsX5_ifSpeed RX5 := ⟨hx, hb, hml, hown, hts⟩
  have hS : va_S (A5 α) s.heap s.heap [] := va_S.rf
  have hl := lv_entry ([.ref (α 0), .int (nI j), .int v, .int q]) (n := 4) (Nat.le_of_ble_eq_true rfl)
  rw [lg_entry_eq]
  generalize (lg_sl ([.ref (α 0), .int (nI j), .int v, .int q]) ++ List.replicate (4 - (lg_sl ([.ref (α 0), .int (nI j), .int v, .int q])).length) Slot.unset).toArray = ls at hl ⊢
  have hl : lv_has ls 4 [(0, .ref (α 0)), (1, .int (nI j)), (2, .int v), (3, .int q)] := hl
  obtain ⟨RS, kp, sv, n, F, len, hn6, hl6, w, RT, hw, hD⟩ := hO
  have hbz := gd_bz hg
  have hm := gd_mono hg
  refine lv_iload_n hx hb dX5_ifSpeed_0 rfl (lv_at hl 1 rfl) ?_
  refine dp_Sv hF hK hN (n_X5_needSet l D G j _ hj) (va_cwS 1 hts gX5_ifSpeed_X5_needSet rfl rfl rfl (by decide +kernel) ⟨Nat.le_of_ble_eq_true rfl, Nat.le_of_ble_eq_true rfl⟩) hS nA_i [] rfl rfl hl.1 (Nat.le_of_ble_eq_true rfl) dX5_ifSpeed_1 ⟨Nat.le_of_ble_eq_true rfl, Nat.le_of_ble_eq_true rfl⟩ (fun H1 locs hp hzH1 hkH1 hS => ?_)
  obtain rfl := hp
  refine lv_iload_n hx hb dX5_ifSpeed_4 rfl (lv_at hl 2 rfl) ?_
  refine lv_sipush (v := 4700) hx hb dX5_ifSpeed_5 (by decide) ?_
  refine lv_sipush (v := 5300) hx hb dX5_ifSpeed_8 (by decide) ?_
  refine dp_Sv hF hK hN (n_X5_needRange l D G v 4700 5300 _ h1) (va_cwS 3 hts gX5_ifSpeed_X5_needRange rfl rfl rfl (by decide +kernel) ⟨Nat.le_of_ble_eq_true rfl, Nat.le_of_ble_eq_true rfl⟩) hS nA_i [] rfl rfl hl.1 (Nat.le_of_ble_eq_true rfl) dX5_ifSpeed_11 ⟨Nat.le_of_ble_eq_true rfl, Nat.le_of_ble_eq_true rfl⟩ (fun H2 locs hp hzH2 hkH2 hS => ?_)
  obtain rfl := hp
  refine lv_iload_n hx hb dX5_ifSpeed_14 rfl (lv_at hl 3 rfl) ?_
  refine lv_iconst (v := 0) hx hb dX5_ifSpeed_15 (by decide) ?_
  refine lv_iconst (v := 2) hx hb dX5_ifSpeed_16 (by decide) ?_
  refine dp_Sv hF hK hN (n_X5_needRange l D G q 0 2 _ h2) (va_cwS 3 hts gX5_ifSpeed_X5_needRange rfl rfl rfl (by decide +kernel) ⟨Nat.le_of_ble_eq_true rfl, Nat.le_of_ble_eq_true rfl⟩) hS nA_i [] rfl rfl hl.1 (Nat.le_of_ble_eq_true rfl) dX5_ifSpeed_17 ⟨Nat.le_of_ble_eq_true rfl, Nat.le_of_ble_eq_true rfl⟩ (fun H3 locs hp hzH3 hkH3 hS => ?_)
  obtain rfl := hp
  refine lv_aload_n hx hb dX5_ifSpeed_20 rfl (lv_at hl 0 rfl) ?_
  refine lv_iload_n hx hb dX5_ifSpeed_21 rfl (lv_at hl 1 rfl) ?_
  refine lv_iload_n hx hb dX5_ifSpeed_22 rfl (lv_at hl 2 rfl) ?_
  refine lv_iload_n hx hb dX5_ifSpeed_23 rfl (lv_at hl 3 rfl) ?_
  refine dp_Vi hF hK hN (c_X5_tellIfSpeed l D G α w R RT RS kp sv n F len j v q _ hα hw hD hbz hm hn6 hl6 hj hm2) (cwV 3 hts gX5_ifSpeed_X5_tellIfSpeed rfl rfl rfl (by decide +kernel) ⟨Nat.le_of_ble_eq_true rfl, Nat.le_of_ble_eq_true rfl⟩) (dp_recv hK hD.1 rfl) hS (fun q hq => hq) [] rfl rfl hl.1 (Nat.le_of_ble_eq_true rfl) dX5_ifSpeed_24 ⟨Nat.le_of_ble_eq_true rfl, Nat.le_of_ble_eq_true rfl⟩ (fun rH4 H4 locs hp hzH4 hkH4 hS => ?_)
  obtain ⟨rfl, w, RT, hw, hD⟩ := hp
  exact W.iret hx hb hr (fun t ht hW => ⟨⟨tif R j v q, H4, rfl, ⟨rfl, _, _, _, _, _, _, hn6, hl6, w, _, hw, hD⟩, ht⟩, hS.F ht⟩) hS.2.2 dX5_ifSpeed_27

set_option maxHeartbeats 600000 in
set_option maxRecDepth 100000 in
theorem n_X5_closeIn (l : Launch) (D : va_G) (G : Nat → ClassId) (α : Nat → Nat) (R : Nat → Int32) (j : Nat) (H : Heap) (hα : inj 115 α) (hO : OB D G α R H) (hg : gd R) (hj : j < 3) : Met l yX5_closeIn wsX5_closeIn ({ frames := 5, cells := 0, slots := 0, locals := 114 } : Room) (va_Pc [.ref (α 0), .int (nI j)] (CX D G H)) (QI (A5 α) (fun r h => cin R j = r ∧ OB D G α R h)) 0 0 (A5 α) := by
  refine Met.ofW (cc := cX5_closeIn) (maxL := 2) (ret := (some .int)) (by decide) rfl ?_
  intro p e s m args below meth c s₁ B0 hml hv
  obtain ⟨rfl, rfl, hK, hN⟩ := hv
  have hx := B0.exec
  have hb := B0.bytes
  have hr := B0.returns
  have hts := atoms_spec (ws := wsX5_closeIn) B0.pre
  have hown : s.vm.findClass RX5 = some m.cls := findClass_of_methodNamed B0.named
  have hlocks := B0.notSynchronized
  have hF : CallFix p m c cX5_closeIn 2 s ([.ref (α 0), .int (nI j)] : List Value).toArray wsX5_closeIn RX5 := ⟨hx, hb, hml, hown, hts⟩
  have hS : va_S (A5 α) s.heap s.heap [] := va_S.rf
  have hl := lv_entry ([.ref (α 0), .int (nI j)]) (n := 2) (Nat.le_of_ble_eq_true rfl)
  rw [lg_entry_eq]
  generalize (lg_sl ([.ref (α 0), .int (nI j)]) ++ List.replicate (2 - (lg_sl ([.ref (α 0), .int (nI j)])).length) Slot.unset).toArray = ls at hl ⊢
  have hl : lv_has ls 2 [(0, .ref (α 0)), (1, .int (nI j))] := hl
  obtain ⟨RS, kp, sv, n, F, len, hn6, hl6, w, RT, hw, hD⟩ := hO
  have hbz := gd_bz hg
  have hm := gd_mono hg
  have hmp : ∀ k, k ≤ 501 → mono (pt R k) := fun k _ => gd_mono (gd_pt hg k)
  refine lv_iload_n hx hb dX5_closeIn_0 rfl (lv_at hl 1 rfl) ?_
  refine dp_Sv hF hK hN (n_X5_needSet l D G j _ hj) (va_cwS 1 hts gX5_closeIn_X5_needSet rfl rfl rfl (by decide +kernel) ⟨Nat.le_of_ble_eq_true rfl, Nat.le_of_ble_eq_true rfl⟩) hS nA_i [] rfl rfl hl.1 (Nat.le_of_ble_eq_true rfl) dX5_closeIn_1 ⟨Nat.le_of_ble_eq_true rfl, Nat.le_of_ble_eq_true rfl⟩ (fun H1 locs hp hzH1 hkH1 hS => ?_)
  obtain rfl := hp
  refine lv_aload_n hx hb dX5_closeIn_4 rfl (lv_at hl 0 rfl) ?_
  refine lv_iload_n hx hb dX5_closeIn_5 rfl (lv_at hl 1 rfl) ?_
  refine dp_Vi hF hK hN (c_X5_ticksUntilClosing l D G α w R RT RS kp sv n F len j _ hα hw hD hbz hm hn6 hl6 hj hmp) (cwV 1 hts gX5_closeIn_X5_ticksUntilClosing rfl rfl rfl (by decide +kernel) ⟨Nat.le_of_ble_eq_true rfl, Nat.le_of_ble_eq_true rfl⟩) (dp_recv hK hD.1 rfl) hS (fun q hq => hq) [] rfl rfl hl.1 (Nat.le_of_ble_eq_true rfl) dX5_closeIn_6 ⟨Nat.le_of_ble_eq_true rfl, Nat.le_of_ble_eq_true rfl⟩ (fun rH2 H2 locs hp hzH2 hkH2 hS => ?_)
  obtain ⟨rfl, w, RT, hw, hD⟩ := hp
  exact W.iret hx hb hr (fun t ht hW => ⟨⟨cin R j, H2, rfl, ⟨rfl, _, _, _, _, _, _, hn6, hl6, w, _, hw, hD⟩, ht⟩, hS.F ht⟩) hS.2.2 dX5_closeIn_9

set_option maxHeartbeats 600000 in
set_option maxRecDepth 100000 in
theorem n_X5_fairSpeed (l : Launch) (D : va_G) (G : Nat → ClassId) (α : Nat → Nat) (R : Nat → Int32) (j : Nat) (H : Heap) (hα : inj 115 α) (hO : OB D G α R H) (hg : gd R) (hj : j < 3) : Met l yX5_fairSpeed wsX5_fairSpeed ({ frames := 4, cells := 0, slots := 0, locals := 96 } : Room) (va_Pc [.ref (α 0), .int (nI j)] (CX D G H)) (QI (A5 α) (fun r h => fair R j = r ∧ OB D G α R h)) 0 0 (A5 α) := by
  refine Met.ofW (cc := cX5_fairSpeed) (maxL := 2) (ret := (some .int)) (by decide) rfl ?_
  intro p e s m args below meth c s₁ B0 hml hv
  obtain ⟨rfl, rfl, hK, hN⟩ := hv
  have hx := B0.exec
  have hb := B0.bytes
  have hr := B0.returns
  have hts := atoms_spec (ws := wsX5_fairSpeed) B0.pre
  have hown : s.vm.findClass RX5 = some m.cls := findClass_of_methodNamed B0.named
  have hlocks := B0.notSynchronized
  have hF : CallFix p m c cX5_fairSpeed 2 s ([.ref (α 0), .int (nI j)] : List Value).toArray wsX5_fairSpeed RX5 := ⟨hx, hb, hml, hown, hts⟩
  have hS : va_S (A5 α) s.heap s.heap [] := va_S.rf
  have hl := lv_entry ([.ref (α 0), .int (nI j)]) (n := 2) (Nat.le_of_ble_eq_true rfl)
  rw [lg_entry_eq]
  generalize (lg_sl ([.ref (α 0), .int (nI j)]) ++ List.replicate (2 - (lg_sl ([.ref (α 0), .int (nI j)])).length) Slot.unset).toArray = ls at hl ⊢
  have hl : lv_has ls 2 [(0, .ref (α 0)), (1, .int (nI j))] := hl
  obtain ⟨RS, kp, sv, n, F, len, hn6, hl6, w, RT, hw, hD⟩ := hO
  have hbz := gd_bz hg
  have hm := gd_mono hg
  have hms : ∀ k, k ≤ 600 → mono (usp R j (nI (4700 + k))) := fun k hk => mono_us hg hk
  refine lv_iload_n hx hb dX5_fairSpeed_0 rfl (lv_at hl 1 rfl) ?_
  refine dp_Sv hF hK hN (n_X5_needSet l D G j _ hj) (va_cwS 1 hts gX5_fairSpeed_X5_needSet rfl rfl rfl (by decide +kernel) ⟨Nat.le_of_ble_eq_true rfl, Nat.le_of_ble_eq_true rfl⟩) hS nA_i [] rfl rfl hl.1 (Nat.le_of_ble_eq_true rfl) dX5_fairSpeed_1 ⟨Nat.le_of_ble_eq_true rfl, Nat.le_of_ble_eq_true rfl⟩ (fun H1 locs hp hzH1 hkH1 hS => ?_)
  obtain rfl := hp
  refine lv_aload_n hx hb dX5_fairSpeed_4 rfl (lv_at hl 0 rfl) ?_
  refine lv_iload_n hx hb dX5_fairSpeed_5 rfl (lv_at hl 1 rfl) ?_
  refine dp_Vi hF hK hN (c_X5_speedForFairShare l D G α w R RT RS kp sv n F len j _ hα hw hD hbz hm hn6 hl6 hj hms) (cwV 1 hts gX5_fairSpeed_X5_speedForFairShare rfl rfl rfl (by decide +kernel) ⟨Nat.le_of_ble_eq_true rfl, Nat.le_of_ble_eq_true rfl⟩) (dp_recv hK hD.1 rfl) hS (fun q hq => hq) [] rfl rfl hl.1 (Nat.le_of_ble_eq_true rfl) dX5_fairSpeed_6 ⟨Nat.le_of_ble_eq_true rfl, Nat.le_of_ble_eq_true rfl⟩ (fun rH2 H2 locs hp hzH2 hkH2 hS => ?_)
  obtain ⟨rfl, w, RT, hw, hD⟩ := hp
  exact W.iret hx hb hr (fun t ht hW => ⟨⟨fair R j, H2, rfl, ⟨rfl, _, _, _, _, _, _, hn6, hl6, w, _, hw, hD⟩, ht⟩, hS.F ht⟩) hS.2.2 dX5_fairSpeed_9
