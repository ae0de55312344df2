set_option maxHeartbeats 8000000 in
set_option maxRecDepth 100000 in
theorem c_X1_init (l : Launch) (D : va_G) (G : Nat → ClassId) (a : Nat) (x : Int32) (H : Heap) (ha : va_at D vwCl (a, .inr (1, [.int 0, .int 0, .int 0, .int 0, .int 0, .int 0, .int 0, .int 0, .int 0, .int 0])) H) : Met l yX1_init wsX1_init ({ frames := 1, cells := 0, slots := 0, locals := 20 } : Room) (va_Pc [.ref a, .int x] (CK D G H)) (QV (fun q => q = a) (fun h => h.size = H.size ∧ va_at D vwCl (a, .inr (1, [.int x, .int 200, .int 5000, .int 0, .int 0, .int 0, .int 0, .int 0, .int 0, .int 0])) h)) 0 0 ((fun q => q = a)) := by
  refine Met.ofW (cc := cX1_init) (maxL := 2) (ret := none) (by decide) rfl ?_
  intro p e s m args below meth c s₁ B0 hml hv
  obtain ⟨rfl, ⟨rfl, hK, hN⟩, hO⟩ := hv
  have hin9 : meth.name = "<init>" := (name_of_methodNamed B0.named B0.method).1
  have hx := B0.exec
  have hb := B0.bytes
  have hr := B0.returns
  have hts := atoms_spec (ws := wsX1_init) B0.pre
  have hown : s.vm.findClass RX1 = some m.cls := findClass_of_methodNamed B0.named
  have hlocks := B0.notSynchronized
  have hF : CallFix p m c cX1_init 2 s ([.ref a, .int x] : List Value).toArray wsX1_init RX1 := ⟨hx, hb, hml, hown, hts⟩
  have hS : va_S ((fun q => q = a)) s.heap s.heap [] := va_S.rf
  have hl := lv_entry ([.ref a, .int x]) (n := 2) (Nat.le_of_ble_eq_true rfl)
  rw [lg_entry_eq]
  generalize (lg_sl ([.ref a, .int x]) ++ List.replicate (2 - (lg_sl ([.ref a, .int x])).length) Slot.unset).toArray = ls at hl ⊢
  have hl : lv_has ls 2 [(0, .ref a), (1, .int x)] := hl
  have ha0 : a < s.heap.size := ha.lt
  have hsz : s.heap.size = s.heap.size := rfl
  refine lv_aload_n hx hb dX1_init_0 rfl (lv_at hl 0 rfl) ?_
  refine W.objInit hx hb hown (hts (.methodLink RX1 1 objectInit) (List.mem_of_getElem? (i := 1) rfl)) (hts (.instanceMethod objectInit) (List.mem_of_getElem? (i := 2) rfl)) (hts (.code objectInit ⟨#[0xb1]⟩ 1 none) (List.mem_of_getElem? (i := 3) rfl)) rfl (by rw [hml]; exact hl.1) rfl dX1_init_1 (Nat.le_of_ble_eq_true rfl) (Nat.le_of_ble_eq_true rfl) ?_
  change W p l e (headSpec wsX1_init ({ frames := 1, cells := 0, slots := 0, locals := 20 } : Room)).room s m ([.ref a, .int x] : List Value).toArray below meth c s.heap _ 0 0 (MQ below (QV (fun q => q = a) (fun h => h.size = s.heap.size ∧ va_at D vwCl (a, .inr (1, [.int x, .int 200, .int 5000, .int 0, .int 0, .int 0, .int 0, .int 0, .int 0, .int 0])) h)) ([.ref a, .int x] : List Value).toArray s 0 0 ((fun q => q = a))) (F0 m 4 ls [])
  refine lv_aload_n hx hb dX1_init_4 rfl (lv_at hl 0 rfl) ?_
  refine lv_sipush (v := 200) hx hb dX1_init_5 (by decide) ?_
  refine dp_put (A := (fun q => q = a)) (v := .int 200) hx hb hts (dp_hin 7 rfl) tyX1 tyX1_ok nmX1 hown hK ha rfl hS rfl 1 (by decide) (hts (.fieldLink RX1 7 "DroopBoard$Diesel" "droop" "I") (List.mem_of_getElem? (i := 4) rfl)) rfl rfl rfl (Nat.le_of_ble_eq_true rfl) dX1_init_8 (fun H1 locs hH1 hzH1 hkH1 hS => ?_)
  have ha := hH1
  have hsz : H1.size = s.heap.size := hzH1.trans hsz
  refine lv_aload_n hx hb dX1_init_11 rfl (lv_at hl 0 rfl) ?_
  refine lv_sipush (v := 5000) hx hb dX1_init_12 (by decide) ?_
  refine dp_put (A := (fun q => q = a)) (v := .int 5000) hx hb hts (dp_hin 7 rfl) tyX1 tyX1_ok nmX1 hown hK ha rfl hS rfl 2 (by decide) (hts (.fieldLink RX1 13 "DroopBoard$Diesel" "speed" "I") (List.mem_of_getElem? (i := 5) rfl)) rfl rfl rfl (Nat.le_of_ble_eq_true rfl) dX1_init_15 (fun H2 locs hH2 hzH2 hkH2 hS => ?_)
  have ha := hH2
  have hsz : H2.size = s.heap.size := hzH2.trans hsz
  refine lv_aload_n hx hb dX1_init_18 rfl (lv_at hl 0 rfl) ?_
  refine lv_iload_n hx hb dX1_init_19 rfl (lv_at hl 1 rfl) ?_
  refine dp_put (A := (fun q => q = a)) (v := .int x) hx hb hts (dp_hin 7 rfl) tyX1 tyX1_ok nmX1 hown hK ha rfl hS rfl 0 (by decide) (hts (.fieldLink RX1 16 "DroopBoard$Diesel" "rating" "I") (List.mem_of_getElem? (i := 6) rfl)) rfl rfl rfl (Nat.le_of_ble_eq_true rfl) dX1_init_20 (fun H3 locs hH3 hzH3 hkH3 hS => ?_)
  have ha := hH3
  have hsz : H3.size = s.heap.size := hzH3.trans hsz
  exact W.vret hx hb hr (fun t ht hW => ⟨⟨H3, rfl, ⟨hsz, ha⟩, ht⟩, hS.F ht⟩) hS.2.2 dX1_init_23

set_option maxHeartbeats 8000000 in
set_option maxRecDepth 100000 in
theorem c_X2_init (l : Launch) (D : va_G) (G : Nat → ClassId) (a : Nat) (H : Heap) (ha : va_at D vwCl (a, .inr (2, [.int 0, .int 0, .int 0])) H) : Met l yX2_init wsX2_init ({ frames := 1, cells := 0, slots := 0, locals := 20 } : Room) (va_Pc [.ref a] (CK D G H)) (QV (fun q => q = a) (fun h => h.size = H.size ∧ va_at D vwCl (a, .inr (2, [.int 0, .int 1, .int 0])) h)) 0 0 ((fun q => q = a)) := by
  refine Met.ofW (cc := cX2_init) (maxL := 1) (ret := none) (by decide) rfl ?_
  intro p e s m args below meth c s₁ B0 hml hv
  obtain ⟨rfl, ⟨rfl, hK, hN⟩, hO⟩ := hv
  have hin9 : meth.name = "<init>" := (name_of_methodNamed B0.named B0.method).1
  have hx := B0.exec
  have hb := B0.bytes
  have hr := B0.returns
  have hts := atoms_spec (ws := wsX2_init) B0.pre
  have hown : s.vm.findClass RX2 = some m.cls := findClass_of_methodNamed B0.named
  have hlocks := B0.notSynchronized
  have hF : CallFix p m c cX2_init 1 s ([.ref a] : List Value).toArray wsX2_init RX2 := ⟨hx, hb, hml, hown, hts⟩
  have hS : va_S ((fun q => q = a)) s.heap s.heap [] := va_S.rf
  have hl := lv_entry ([.ref a]) (n := 1) (Nat.le_of_ble_eq_true rfl)
  rw [lg_entry_eq]
  generalize (lg_sl ([.ref a]) ++ List.replicate (1 - (lg_sl ([.ref a])).length) Slot.unset).toArray = ls at hl ⊢
  have hl : lv_has ls 1 [(0, .ref a)] := hl
  have ha0 : a < s.heap.size := ha.lt
  have hsz : s.heap.size = s.heap.size := rfl
  refine lv_aload_n hx hb dX2_init_0 rfl (lv_at hl 0 rfl) ?_
  refine W.objInit hx hb hown (hts (.methodLink RX2 1 objectInit) (List.mem_of_getElem? (i := 1) rfl)) (hts (.instanceMethod objectInit) (List.mem_of_getElem? (i := 2) rfl)) (hts (.code objectInit ⟨#[0xb1]⟩ 1 none) (List.mem_of_getElem? (i := 3) rfl)) rfl (by rw [hml]; exact hl.1) rfl dX2_init_1 (Nat.le_of_ble_eq_true rfl) (Nat.le_of_ble_eq_true rfl) ?_
  change W p l e (headSpec wsX2_init ({ frames := 1, cells := 0, slots := 0, locals := 20 } : Room)).room s m ([.ref a] : List Value).toArray below meth c s.heap _ 0 0 (MQ below (QV (fun q => q = a) (fun h => h.size = s.heap.size ∧ va_at D vwCl (a, .inr (2, [.int 0, .int 1, .int 0])) h)) ([.ref a] : List Value).toArray s 0 0 ((fun q => q = a))) (F0 m 4 ls [])
  refine lv_aload_n hx hb dX2_init_4 rfl (lv_at hl 0 rfl) ?_
  refine lv_iconst (v := 1) hx hb dX2_init_5 (by decide) ?_
  refine dp_put (A := (fun q => q = a)) (v := .int 1) hx hb hts (dp_hin 5 rfl) tyX2 tyX2_ok nmX2 hown hK ha rfl hS rfl 1 (by decide) (hts (.fieldLink RX2 7 "DroopBoard$Feeder" "on" "Z") (List.mem_of_getElem? (i := 4) rfl)) rfl rfl rfl (Nat.le_of_ble_eq_true rfl) dX2_init_6 (fun H1 locs hH1 hzH1 hkH1 hS => ?_)
  have ha := hH1
  have hsz : H1.size = s.heap.size := hzH1.trans hsz
  exact W.vret hx hb hr (fun t ht hW => ⟨⟨H1, rfl, ⟨hsz, ha⟩, ht⟩, hS.F ht⟩) hS.2.2 dX2_init_9

set_option maxHeartbeats 8000000 in
set_option maxRecDepth 100000 in
theorem c_X0_init (l : Launch) (D : va_G) (G : Nat → ClassId) (a : Nat) (H : Heap) (ha : va_at D vwCl (a, .inr (0, [.null, .null, .null, .int 0, .int 0])) H) : Met l yX0_init wsX0_init ({ frames := 2, cells := 10, slots := 53, locals := 41 } : Room) (va_Pc [.ref a] (CK D G H)) (QV (fun q => q = a ∨ H.size ≤ q) (fun h => h.size = H.size + 10 ∧ BD D G (bb a H.size) r0 h)) 10 53 ((fun q => q = a ∨ H.size ≤ q)) := by
  refine Met.ofW (cc := cX0_init) (maxL := 2) (ret := none) (by decide) rfl ?_
  intro p e s m args below meth c s₁ B0 hml hv
  obtain ⟨rfl, ⟨rfl, hK, hN⟩, hO⟩ := hv
  have hin9 : meth.name = "<init>" := (name_of_methodNamed B0.named B0.method).1
  have hx := B0.exec
  have hb := B0.bytes
  have hr := B0.returns
  have hts := atoms_spec (ws := wsX0_init) B0.pre
  have hown : s.vm.findClass RX0 = some m.cls := findClass_of_methodNamed B0.named
  have hlocks := B0.notSynchronized
  have hF : CallFix p m c cX0_init 2 s ([.ref a] : List Value).toArray wsX0_init RX0 := ⟨hx, hb, hml, hown, hts⟩
  have hS : va_S ((fun q => q = a ∨ s.heap.size ≤ q)) s.heap s.heap [] := va_S.rf
  have hl := lv_entry ([.ref a]) (n := 2) (Nat.le_of_ble_eq_true rfl)
  rw [lg_entry_eq]
  generalize (lg_sl ([.ref a]) ++ List.replicate (2 - (lg_sl ([.ref a])).length) Slot.unset).toArray = ls at hl ⊢
  have hl : lv_has ls 2 [(0, .ref a)] := hl
  have ha0 : a < s.heap.size := ha.lt
  have hsz : s.heap.size = s.heap.size := rfl
  refine lv_aload_n hx hb dX0_init_0 rfl (lv_at hl 0 rfl) ?_
  refine W.objInit hx hb hown (hts (.methodLink RX0 3 objectInit) (List.mem_of_getElem? (i := 1) rfl)) (hts (.instanceMethod objectInit) (List.mem_of_getElem? (i := 2) rfl)) (hts (.code objectInit ⟨#[0xb1]⟩ 1 none) (List.mem_of_getElem? (i := 3) rfl)) rfl (by rw [hml]; exact hl.1) rfl dX0_init_1 (Nat.le_of_ble_eq_true rfl) (Nat.le_of_ble_eq_true rfl) ?_
  change W p l e (headSpec wsX0_init ({ frames := 2, cells := 10, slots := 53, locals := 41 } : Room)).room s m ([.ref a] : List Value).toArray below meth c s.heap _ 0 0 (MQ below (QV (fun q => q = a ∨ s.heap.size ≤ q) (fun h => h.size = s.heap.size + 10 ∧ BD D G (bb a s.heap.size) r0 h)) ([.ref a] : List Value).toArray s 10 53 ((fun q => q = a ∨ s.heap.size ≤ q))) (F0 m 4 ls [])
  refine lv_aload_n hx hb dX0_init_4 rfl (lv_at hl 0 rfl) ?_
  refine lv_iconst (v := 3) hx hb dX0_init_5 (by decide) ?_
  refine dp_newq hx hb hown (hts (.classLink RX0 9 RX1) (List.mem_of_getElem? (i := 4) rfl)) hO.1 hK 1 rfl hS 3 rfl (by omega) (Nat.le_of_ble_eq_true rfl) (Nat.le_of_ble_eq_true rfl) dX0_init_6 s.heap.size hsz (fun H1 f1 hzH1 hkH1 hS => ?_)
  have ha := ha.kept (hkH1 _ (by omega))
  have hsz : H1.size = s.heap.size + 1 := hzH1
  refine dp_putF (A := (fun q => q = a ∨ s.heap.size ≤ q)) (v := .ref s.heap.size) hx hb hts (dp_hin 25 rfl) tyX0 tyX0_ok nmX0 hown hK ha (Or.inl rfl) hS rfl 0 (by decide) (hts (.fieldLink RX0 11 "DroopBoard$Board" "diesels" "[LDroopBoard$Diesel;") (List.mem_of_getElem? (i := 5) rfl)) rfl hin9 rfl rfl rfl (Nat.le_of_ble_eq_true rfl) dX0_init_9 (fun H2 locs hH2 hzH2 hkH2 hS => ?_)
  have f1 := f1.kept (hkH2 _ (by omega))
  have ha := hH2
  have hsz : H2.size = s.heap.size + 1 := hzH2.trans hsz
  refine lv_aload_n hx hb dX0_init_12 rfl (lv_at hl 0 rfl) ?_
  refine lv_iconst (v := 4) hx hb dX0_init_13 (by decide) ?_
  refine dp_newq hx hb hown (hts (.classLink RX0 17 RX2) (List.mem_of_getElem? (i := 6) rfl)) hO.2.1 hK 2 rfl hS 4 rfl (by omega) (Nat.le_of_ble_eq_true rfl) (Nat.le_of_ble_eq_true rfl) dX0_init_14 (s.heap.size + 1) hsz (fun H3 f3 hzH3 hkH3 hS => ?_)
  have ha := ha.kept (hkH3 _ (by omega))
  have f1 := f1.kept (hkH3 _ (by omega))
  have hsz : H3.size = s.heap.size + 2 := hzH3
  refine dp_putF (A := (fun q => q = a ∨ s.heap.size ≤ q)) (v := .ref (s.heap.size + 1)) hx hb hts (dp_hin 25 rfl) tyX0 tyX0_ok nmX0 hown hK ha (Or.inl rfl) hS rfl 1 (by decide) (hts (.fieldLink RX0 19 "DroopBoard$Board" "feeders" "[LDroopBoard$Feeder;") (List.mem_of_getElem? (i := 7) rfl)) rfl hin9 rfl rfl rfl (Nat.le_of_ble_eq_true rfl) dX0_init_17 (fun H4 locs hH4 hzH4 hkH4 hS => ?_)
  have f1 := f1.kept (hkH4 _ (by omega))
  have f3 := f3.kept (hkH4 _ (by omega))
  have ha := hH4
  have hsz : H4.size = s.heap.size + 2 := hzH4.trans hsz
  refine lv_aload_n hx hb dX0_init_20 rfl (lv_at hl 0 rfl) ?_
  refine lv_iconst (v := 4) hx hb dX0_init_21 (by decide) ?_
  refine dp_newi hx hb (hts (.arrayClass .int) (List.mem_of_getElem? (i := 8) rfl)) hK 0 rfl hS 4 rfl (by omega) (Nat.le_of_ble_eq_true rfl) (Nat.le_of_ble_eq_true rfl) dX0_init_22 (s.heap.size + 2) hsz (fun H5 f5 hzH5 hkH5 hS => ?_)
  have ha := ha.kept (hkH5 _ (by omega))
  have f1 := f1.kept (hkH5 _ (by omega))
  have f3 := f3.kept (hkH5 _ (by omega))
  have hsz : H5.size = s.heap.size + 3 := hzH5
  refine lv_dup hx hb dX0_init_24 rfl ?_
  refine lv_iconst (v := 0) hx hb dX0_init_25 (by decide) ?_
  refine lv_iconst (v := 3) hx hb dX0_init_26 (by decide) ?_
  refine dp_iast (A := (fun q => q = a ∨ s.heap.size ≤ q)) hx hb hK f5 (Or.inr (by omega)) hS 0 rfl 0 rfl (by decide) (by decide) dX0_init_27 (fun H6 locs hH6 hzH6 hkH6 hS => ?_)
  have ha := ha.kept (hkH6 _ (by omega))
  have f1 := f1.kept (hkH6 _ (by omega))
  have f3 := f3.kept (hkH6 _ (by omega))
  have f5 := hH6
  have hsz : H6.size = s.heap.size + 3 := hzH6.trans hsz
  refine lv_dup hx hb dX0_init_28 rfl ?_
  refine lv_iconst (v := 1) hx hb dX0_init_29 (by decide) ?_
  refine lv_iconst (v := 2) hx hb dX0_init_30 (by decide) ?_
  refine dp_iast (A := (fun q => q = a ∨ s.heap.size ≤ q)) hx hb hK f5 (Or.inr (by omega)) hS 0 rfl 1 rfl (by decide) (by decide) dX0_init_31 (fun H7 locs hH7 hzH7 hkH7 hS => ?_)
  have ha := ha.kept (hkH7 _ (by omega))
  have f1 := f1.kept (hkH7 _ (by omega))
  have f3 := f3.kept (hkH7 _ (by omega))
  have f5 := hH7
  have hsz : H7.size = s.heap.size + 3 := hzH7.trans hsz
  refine lv_dup hx hb dX0_init_32 rfl ?_
  refine lv_iconst (v := 2) hx hb dX0_init_33 (by decide) ?_
  refine lv_bipush (v := 10) hx hb dX0_init_34 (by decide) ?_
  refine dp_iast (A := (fun q => q = a ∨ s.heap.size ≤ q)) hx hb hK f5 (Or.inr (by omega)) hS 0 rfl 2 rfl (by decide) (by decide) dX0_init_36 (fun H8 locs hH8 hzH8 hkH8 hS => ?_)
  have ha := ha.kept (hkH8 _ (by omega))
  have f1 := f1.kept (hkH8 _ (by omega))
  have f3 := f3.kept (hkH8 _ (by omega))
  have f5 := hH8
  have hsz : H8.size = s.heap.size + 3 := hzH8.trans hsz
  refine lv_dup hx hb dX0_init_37 rfl ?_
  refine lv_iconst (v := 3) hx hb dX0_init_38 (by decide) ?_
  refine lv_bipush (v := 30) hx hb dX0_init_39 (by decide) ?_
  refine dp_iast (A := (fun q => q = a ∨ s.heap.size ≤ q)) hx hb hK f5 (Or.inr (by omega)) hS 0 rfl 3 rfl (by decide) (by decide) dX0_init_41 (fun H9 locs hH9 hzH9 hkH9 hS => ?_)
  have ha := ha.kept (hkH9 _ (by omega))
  have f1 := f1.kept (hkH9 _ (by omega))
  have f3 := f3.kept (hkH9 _ (by omega))
  have f5 := hH9
  have hsz : H9.size = s.heap.size + 3 := hzH9.trans hsz
  refine dp_putF (A := (fun q => q = a ∨ s.heap.size ≤ q)) (v := .ref (s.heap.size + 2)) hx hb hts (dp_hin 25 rfl) tyX0 tyX0_ok nmX0 hown hK ha (Or.inl rfl) hS rfl 2 (by decide) (hts (.fieldLink RX0 23 "DroopBoard$Board" "settings" "[I") (List.mem_of_getElem? (i := 9) rfl)) rfl hin9 rfl rfl rfl (Nat.le_of_ble_eq_true rfl) dX0_init_42 (fun H10 locs hH10 hzH10 hkH10 hS => ?_)
  have f1 := f1.kept (hkH10 _ (by omega))
  have f3 := f3.kept (hkH10 _ (by omega))
  have f5 := f5.kept (hkH10 _ (by omega))
  have ha := hH10
  have hsz : H10.size = s.heap.size + 3 := hzH10.trans hsz
  refine lv_iconst (v := 0) hx hb dX0_init_45 (by decide) ?_
  refine lv_istore_n (lv' := [(1, .int 0), (0, .ref a)]) hx hb dX0_init_46 rfl hl (by decide) rfl (fun ls hl => ?_)
  refine lv_iload_n hx hb dX0_init_47 rfl (lv_at hl 0 rfl) ?_
  refine lv_aload_n hx hb dX0_init_48 rfl (lv_at hl 1 rfl) ?_
  refine dp_get hx hb hts (dp_hin 25 rfl) hown hK ha rfl 0 (by decide) (hts (.fieldLink RX0 11 "DroopBoard$Board" "diesels" "[LDroopBoard$Diesel;") (List.mem_of_getElem? (i := 5) rfl)) rfl dX0_init_49 ?_
  refine dp_alen hx hb hK f1 1 rfl dX0_init_52 ?_
  refine lv_icmp_ge (tgt := 83) hx hb dX0_init_53 (by decide) (fun c1 => absurd c1 (by decide)) (fun c1 => ?_)
  refine lv_aload_n hx hb dX0_init_56 rfl (lv_at hl 1 rfl) ?_
  refine dp_get hx hb hts (dp_hin 25 rfl) hown hK ha rfl 0 (by decide) (hts (.fieldLink RX0 11 "DroopBoard$Board" "diesels" "[LDroopBoard$Diesel;") (List.mem_of_getElem? (i := 5) rfl)) rfl dX0_init_57 ?_
  refine lv_iload_n hx hb dX0_init_60 rfl (lv_at hl 0 rfl) ?_
  refine dp_new (ci := 1) (C := RX1) (T := TX1) (N := 10) (fs := [.int 0, .int 0, .int 0, .int 0, .int 0, .int 0, .int 0, .int 0, .int 0, .int 0]) hx hb hts (dp_hin 30 rfl) tyX1 tyX1_ok hown (hts (.classLink RX0 9 RX1) (List.mem_of_getElem? (i := 4) rfl)) (hts (.instantiable RX1 10) (List.mem_of_getElem? (i := 10) rfl)) (hts (.initialized RX1) (List.mem_of_getElem? (i := 11) rfl)) hK hS rfl (fun j hj => by rcases (show j = 0 ∨ j = 1 ∨ j = 2 ∨ j = 3 ∨ j = 4 ∨ j = 5 ∨ j = 6 ∨ j = 7 ∨ j = 8 ∨ j = 9 by omega) with rfl | rfl | rfl | rfl | rfl | rfl | rfl | rfl | rfl | rfl <;> rfl) (Nat.le_of_ble_eq_true rfl) (Nat.le_of_ble_eq_true rfl) dX0_init_61 (s.heap.size + 3) hsz (fun H11 f11 hzH11 hkH11 hS => ?_)
  have ha := ha.kept (hkH11 _ (by omega))
  have f1 := f1.kept (hkH11 _ (by omega))
  have f3 := f3.kept (hkH11 _ (by omega))
  have f5 := f5.kept (hkH11 _ (by omega))
  have hsz : H11.size = s.heap.size + 4 := hzH11
  refine lv_dup hx hb dX0_init_64 rfl ?_
  refine lv_sipush (v := 200) hx hb dX0_init_65 (by decide) ?_
  refine lv_bipush (v := 100) hx hb dX0_init_68 (by decide) ?_
  refine lv_iload_n hx hb dX0_init_70 rfl (lv_at hl 0 rfl) ?_
  refine lv_imul hx hb dX0_init_71 ?_
  refine lv_iadd hx hb dX0_init_72 ?_
  rw [show (200 : Int32) + (100 * 0) = 200 by decide]
  refine dp_Iv hF hK hN hO (c_X1_init l D G (s.heap.size + 3) 200 _ f11) (cwI 1 hts gX0_init_X1_init rfl rfl rfl (hts (.initialized RX1) (List.mem_of_getElem? (i := 11) rfl)) (hts (.methodLink RX0 27 yX1_init) (List.mem_of_getElem? (i := 14) rfl)) (hts (.instanceMethod yX1_init) (List.mem_of_getElem? (i := 15) rfl)) rfl (by decide +kernel) ⟨Nat.le_of_ble_eq_true rfl, Nat.le_of_ble_eq_true rfl⟩) hS (fun q hq => by have hq : q = s.heap.size + 3 := hq; exact Or.inr (by omega)) [.ref (s.heap.size + 3), .int 0, .ref s.heap.size] rfl rfl hl.1 (Nat.le_of_ble_eq_true rfl) dX0_init_73 ⟨Nat.le_of_ble_eq_true rfl, Nat.le_of_ble_eq_true rfl⟩ (fun H12 locs hp hzH12 hkH12 hS => ?_)
  have ha := ha.kept (hkH12 (a) (by omega) (by show ¬ (_ = _); omega))
  have f1 := f1.kept (hkH12 (s.heap.size) (by omega) (by show ¬ (_ = _); omega))
  have f3 := f3.kept (hkH12 (s.heap.size + 1) (by omega) (by show ¬ (_ = _); omega))
  have f5 := f5.kept (hkH12 (s.heap.size + 2) (by omega) (by show ¬ (_ = _); omega))
  obtain ⟨hz9, gH12⟩ := hp
  have hsz : H12.size = s.heap.size + 4 := hz9.trans hsz
  refine dp_aast (A := (fun q => q = a ∨ s.heap.size ≤ q)) hx hb hK f1 (Or.inr (by omega)) hS 1 rfl gH12 rfl 0 rfl (by decide) (by decide) dX0_init_76 (fun H13 locs h9H13 hzH13 hkH13 hS => ?_)
  have ha := ha.kept (hkH13 _ (by omega))
  have f3 := f3.kept (hkH13 _ (by omega))
  have f5 := f5.kept (hkH13 _ (by omega))
  have gH12 := gH12.kept (hkH13 _ (by omega))
  have f1 := h9H13
  have hsz : H13.size = s.heap.size + 4 := hzH13.trans hsz
  refine lv_iinc (v := 1) (lv' := [(1, .int (1)), (0, .ref a)]) hx hb dX0_init_77 hl (k := 0) rfl rfl (by decide) rfl (fun ls hl => ?_)
  refine lv_goto (tgt := 47) hx hb dX0_init_80 (by decide) ?_
  refine lv_iload_n hx hb dX0_init_47 rfl (lv_at hl 0 rfl) ?_
  refine lv_aload_n hx hb dX0_init_48 rfl (lv_at hl 1 rfl) ?_
  refine dp_get hx hb hts (dp_hin 25 rfl) hown hK ha rfl 0 (by decide) (hts (.fieldLink RX0 11 "DroopBoard$Board" "diesels" "[LDroopBoard$Diesel;") (List.mem_of_getElem? (i := 5) rfl)) rfl dX0_init_49 ?_
  refine dp_alen hx hb hK f1 1 rfl dX0_init_52 ?_
  refine lv_icmp_ge (tgt := 83) hx hb dX0_init_53 (by decide) (fun c2 => absurd c2 (by decide)) (fun c2 => ?_)
  refine lv_aload_n hx hb dX0_init_56 rfl (lv_at hl 1 rfl) ?_
  refine dp_get hx hb hts (dp_hin 25 rfl) hown hK ha rfl 0 (by decide) (hts (.fieldLink RX0 11 "DroopBoard$Board" "diesels" "[LDroopBoard$Diesel;") (List.mem_of_getElem? (i := 5) rfl)) rfl dX0_init_57 ?_
  refine lv_iload_n hx hb dX0_init_60 rfl (lv_at hl 0 rfl) ?_
  refine dp_new (ci := 1) (C := RX1) (T := TX1) (N := 10) (fs := [.int 0, .int 0, .int 0, .int 0, .int 0, .int 0, .int 0, .int 0, .int 0, .int 0]) hx hb hts (dp_hin 30 rfl) tyX1 tyX1_ok hown (hts (.classLink RX0 9 RX1) (List.mem_of_getElem? (i := 4) rfl)) (hts (.instantiable RX1 10) (List.mem_of_getElem? (i := 10) rfl)) (hts (.initialized RX1) (List.mem_of_getElem? (i := 11) rfl)) hK hS rfl (fun j hj => by rcases (show j = 0 ∨ j = 1 ∨ j = 2 ∨ j = 3 ∨ j = 4 ∨ j = 5 ∨ j = 6 ∨ j = 7 ∨ j = 8 ∨ j = 9 by omega) with rfl | rfl | rfl | rfl | rfl | rfl | rfl | rfl | rfl | rfl <;> rfl) (Nat.le_of_ble_eq_true rfl) (Nat.le_of_ble_eq_true rfl) dX0_init_61 (s.heap.size + 4) hsz (fun H14 f14 hzH14 hkH14 hS => ?_)
  have ha := ha.kept (hkH14 _ (by omega))
  have f1 := f1.kept (hkH14 _ (by omega))
  have f3 := f3.kept (hkH14 _ (by omega))
  have f5 := f5.kept (hkH14 _ (by omega))
  have gH12 := gH12.kept (hkH14 _ (by omega))
  have hsz : H14.size = s.heap.size + 5 := hzH14
  refine lv_dup hx hb dX0_init_64 rfl ?_
  refine lv_sipush (v := 200) hx hb dX0_init_65 (by decide) ?_
  refine lv_bipush (v := 100) hx hb dX0_init_68 (by decide) ?_
  refine lv_iload_n hx hb dX0_init_70 rfl (lv_at hl 0 rfl) ?_
  refine lv_imul hx hb dX0_init_71 ?_
  refine lv_iadd hx hb dX0_init_72 ?_
  refine dp_Iv hF hK hN hO (c_X1_init l D G (s.heap.size + 4) (200 + (100 * 1)) _ f14) (cwI 1 hts gX0_init_X1_init rfl rfl rfl (hts (.initialized RX1) (List.mem_of_getElem? (i := 11) rfl)) (hts (.methodLink RX0 27 yX1_init) (List.mem_of_getElem? (i := 14) rfl)) (hts (.instanceMethod yX1_init) (List.mem_of_getElem? (i := 15) rfl)) rfl (by decide +kernel) ⟨Nat.le_of_ble_eq_true rfl, Nat.le_of_ble_eq_true rfl⟩) hS (fun q hq => by have hq : q = s.heap.size + 4 := hq; exact Or.inr (by omega)) [.ref (s.heap.size + 4), .int (1), .ref s.heap.size] rfl rfl hl.1 (Nat.le_of_ble_eq_true rfl) dX0_init_73 ⟨Nat.le_of_ble_eq_true rfl, Nat.le_of_ble_eq_true rfl⟩ (fun H15 locs hp hzH15 hkH15 hS => ?_)
  have ha := ha.kept (hkH15 (a) (by omega) (by show ¬ (_ = _); omega))
  have f1 := f1.kept (hkH15 (s.heap.size) (by omega) (by show ¬ (_ = _); omega))
  have f3 := f3.kept (hkH15 (s.heap.size + 1) (by omega) (by show ¬ (_ = _); omega))
  have f5 := f5.kept (hkH15 (s.heap.size + 2) (by omega) (by show ¬ (_ = _); omega))
  have gH12 := gH12.kept (hkH15 (s.heap.size + 3) (by omega) (by show ¬ (_ = _); omega))
  obtain ⟨hz9, gH15⟩ := hp
  have hsz : H15.size = s.heap.size + 5 := hz9.trans hsz
  refine dp_aast (A := (fun q => q = a ∨ s.heap.size ≤ q)) hx hb hK f1 (Or.inr (by omega)) hS 1 rfl gH15 rfl 1 rfl (by decide) (by decide) dX0_init_76 (fun H16 locs h9H16 hzH16 hkH16 hS => ?_)
  have ha := ha.kept (hkH16 _ (by omega))
  have f3 := f3.kept (hkH16 _ (by omega))
  have f5 := f5.kept (hkH16 _ (by omega))
  have gH12 := gH12.kept (hkH16 _ (by omega))
  have gH15 := gH15.kept (hkH16 _ (by omega))
  have f1 := h9H16
  have hsz : H16.size = s.heap.size + 5 := hzH16.trans hsz
  refine lv_iinc (v := 2) (lv' := [(1, .int (2)), (0, .ref a)]) hx hb dX0_init_77 hl (k := 0) rfl rfl (by decide) rfl (fun ls hl => ?_)
  refine lv_goto (tgt := 47) hx hb dX0_init_80 (by decide) ?_
  refine lv_iload_n hx hb dX0_init_47 rfl (lv_at hl 0 rfl) ?_
  refine lv_aload_n hx hb dX0_init_48 rfl (lv_at hl 1 rfl) ?_
  refine dp_get hx hb hts (dp_hin 25 rfl) hown hK ha rfl 0 (by decide) (hts (.fieldLink RX0 11 "DroopBoard$Board" "diesels" "[LDroopBoard$Diesel;") (List.mem_of_getElem? (i := 5) rfl)) rfl dX0_init_49 ?_
  refine dp_alen hx hb hK f1 1 rfl dX0_init_52 ?_
  refine lv_icmp_ge (tgt := 83) hx hb dX0_init_53 (by decide) (fun c3 => absurd c3 (by decide)) (fun c3 => ?_)
  refine lv_aload_n hx hb dX0_init_56 rfl (lv_at hl 1 rfl) ?_
  refine dp_get hx hb hts (dp_hin 25 rfl) hown hK ha rfl 0 (by decide) (hts (.fieldLink RX0 11 "DroopBoard$Board" "diesels" "[LDroopBoard$Diesel;") (List.mem_of_getElem? (i := 5) rfl)) rfl dX0_init_57 ?_
  refine lv_iload_n hx hb dX0_init_60 rfl (lv_at hl 0 rfl) ?_
  refine dp_new (ci := 1) (C := RX1) (T := TX1) (N := 10) (fs := [.int 0, .int 0, .int 0, .int 0, .int 0, .int 0, .int 0, .int 0, .int 0, .int 0]) hx hb hts (dp_hin 30 rfl) tyX1 tyX1_ok hown (hts (.classLink RX0 9 RX1) (List.mem_of_getElem? (i := 4) rfl)) (hts (.instantiable RX1 10) (List.mem_of_getElem? (i := 10) rfl)) (hts (.initialized RX1) (List.mem_of_getElem? (i := 11) rfl)) hK hS rfl (fun j hj => by rcases (show j = 0 ∨ j = 1 ∨ j = 2 ∨ j = 3 ∨ j = 4 ∨ j = 5 ∨ j = 6 ∨ j = 7 ∨ j = 8 ∨ j = 9 by omega) with rfl | rfl | rfl | rfl | rfl | rfl | rfl | rfl | rfl | rfl <;> rfl) (Nat.le_of_ble_eq_true rfl) (Nat.le_of_ble_eq_true rfl) dX0_init_61 (s.heap.size + 5) hsz (fun H17 f17 hzH17 hkH17 hS => ?_)
  have ha := ha.kept (hkH17 _ (by omega))
  have f1 := f1.kept (hkH17 _ (by omega))
  have f3 := f3.kept (hkH17 _ (by omega))
  have f5 := f5.kept (hkH17 _ (by omega))
  have gH12 := gH12.kept (hkH17 _ (by omega))
  have gH15 := gH15.kept (hkH17 _ (by omega))
  have hsz : H17.size = s.heap.size + 6 := hzH17
  refine lv_dup hx hb dX0_init_64 rfl ?_
  refine lv_sipush (v := 200) hx hb dX0_init_65 (by decide) ?_
  refine lv_bipush (v := 100) hx hb dX0_init_68 (by decide) ?_
  refine lv_iload_n hx hb dX0_init_70 rfl (lv_at hl 0 rfl) ?_
  refine lv_imul hx hb dX0_init_71 ?_
  refine lv_iadd hx hb dX0_init_72 ?_
  refine dp_Iv hF hK hN hO (c_X1_init l D G (s.heap.size + 5) (200 + (100 * 2)) _ f17) (cwI 1 hts gX0_init_X1_init rfl rfl rfl (hts (.initialized RX1) (List.mem_of_getElem? (i := 11) rfl)) (hts (.methodLink RX0 27 yX1_init) (List.mem_of_getElem? (i := 14) rfl)) (hts (.instanceMethod yX1_init) (List.mem_of_getElem? (i := 15) rfl)) rfl (by decide +kernel) ⟨Nat.le_of_ble_eq_true rfl, Nat.le_of_ble_eq_true rfl⟩) hS (fun q hq => by have hq : q = s.heap.size + 5 := hq; exact Or.inr (by omega)) [.ref (s.heap.size + 5), .int (2), .ref s.heap.size] rfl rfl hl.1 (Nat.le_of_ble_eq_true rfl) dX0_init_73 ⟨Nat.le_of_ble_eq_true rfl, Nat.le_of_ble_eq_true rfl⟩ (fun H18 locs hp hzH18 hkH18 hS => ?_)
  have ha := ha.kept (hkH18 (a) (by omega) (by show ¬ (_ = _); omega))
  have f1 := f1.kept (hkH18 (s.heap.size) (by omega) (by show ¬ (_ = _); omega))
  have f3 := f3.kept (hkH18 (s.heap.size + 1) (by omega) (by show ¬ (_ = _); omega))
  have f5 := f5.kept (hkH18 (s.heap.size + 2) (by omega) (by show ¬ (_ = _); omega))
  have gH12 := gH12.kept (hkH18 (s.heap.size + 3) (by omega) (by show ¬ (_ = _); omega))
  have gH15 := gH15.kept (hkH18 (s.heap.size + 4) (by omega) (by show ¬ (_ = _); omega))
  obtain ⟨hz9, gH18⟩ := hp
  have hsz : H18.size = s.heap.size + 6 := hz9.trans hsz
  refine dp_aast (A := (fun q => q = a ∨ s.heap.size ≤ q)) hx hb hK f1 (Or.inr (by omega)) hS 1 rfl gH18 rfl 2 rfl (by decide) (by decide) dX0_init_76 (fun H19 locs h9H19 hzH19 hkH19 hS => ?_)
  have ha := ha.kept (hkH19 _ (by omega))
  have f3 := f3.kept (hkH19 _ (by omega))
  have f5 := f5.kept (hkH19 _ (by omega))
  have gH12 := gH12.kept (hkH19 _ (by omega))
  have gH15 := gH15.kept (hkH19 _ (by omega))
  have gH18 := gH18.kept (hkH19 _ (by omega))
  have f1 := h9H19
  have hsz : H19.size = s.heap.size + 6 := hzH19.trans hsz
  refine lv_iinc (v := 3) (lv' := [(1, .int (3)), (0, .ref a)]) hx hb dX0_init_77 hl (k := 0) rfl rfl (by decide) rfl (fun ls hl => ?_)
  refine lv_goto (tgt := 47) hx hb dX0_init_80 (by decide) ?_
  refine lv_iload_n hx hb dX0_init_47 rfl (lv_at hl 0 rfl) ?_
  refine lv_aload_n hx hb dX0_init_48 rfl (lv_at hl 1 rfl) ?_
  refine dp_get hx hb hts (dp_hin 25 rfl) hown hK ha rfl 0 (by decide) (hts (.fieldLink RX0 11 "DroopBoard$Board" "diesels" "[LDroopBoard$Diesel;") (List.mem_of_getElem? (i := 5) rfl)) rfl dX0_init_49 ?_
  refine dp_alen hx hb hK f1 1 rfl dX0_init_52 ?_
  refine lv_icmp_ge (tgt := 83) hx hb dX0_init_53 (by decide) (fun c4 => ?_) (fun c4 => absurd (by decide) c4)
  refine lv_iconst (v := 0) hx hb dX0_init_83 (by decide) ?_
  refine lv_istore_n (lv' := [(1, .int 0), (0, .ref a)]) hx hb dX0_init_84 rfl hl (by decide) rfl (fun ls hl => ?_)
  refine lv_iload_n hx hb dX0_init_85 rfl (lv_at hl 0 rfl) ?_
  refine lv_aload_n hx hb dX0_init_86 rfl (lv_at hl 1 rfl) ?_
  refine dp_get hx hb hts (dp_hin 25 rfl) hown hK ha rfl 1 (by decide) (hts (.fieldLink RX0 19 "DroopBoard$Board" "feeders" "[LDroopBoard$Feeder;") (List.mem_of_getElem? (i := 7) rfl)) rfl dX0_init_87 ?_
  refine dp_alen hx hb hK f3 2 rfl dX0_init_90 ?_
  refine lv_icmp_ge (tgt := 113) hx hb dX0_init_91 (by decide) (fun c5 => absurd c5 (by decide)) (fun c5 => ?_)
  refine lv_aload_n hx hb dX0_init_94 rfl (lv_at hl 1 rfl) ?_
  refine dp_get hx hb hts (dp_hin 25 rfl) hown hK ha rfl 1 (by decide) (hts (.fieldLink RX0 19 "DroopBoard$Board" "feeders" "[LDroopBoard$Feeder;") (List.mem_of_getElem? (i := 7) rfl)) rfl dX0_init_95 ?_
  refine lv_iload_n hx hb dX0_init_98 rfl (lv_at hl 0 rfl) ?_
  refine dp_new (ci := 2) (C := RX2) (T := TX2) (N := 3) (fs := [.int 0, .int 0, .int 0]) hx hb hts (dp_hin 40 rfl) tyX2 tyX2_ok hown (hts (.classLink RX0 17 RX2) (List.mem_of_getElem? (i := 6) rfl)) (hts (.instantiable RX2 3) (List.mem_of_getElem? (i := 12) rfl)) (hts (.initialized RX2) (List.mem_of_getElem? (i := 13) rfl)) hK hS rfl (fun j hj => by rcases (show j = 0 ∨ j = 1 ∨ j = 2 by omega) with rfl | rfl | rfl <;> rfl) (Nat.le_of_ble_eq_true rfl) (Nat.le_of_ble_eq_true rfl) dX0_init_99 (s.heap.size + 6) hsz (fun H20 f20 hzH20 hkH20 hS => ?_)
  have ha := ha.kept (hkH20 _ (by omega))
  have f1 := f1.kept (hkH20 _ (by omega))
  have f3 := f3.kept (hkH20 _ (by omega))
  have f5 := f5.kept (hkH20 _ (by omega))
  have gH12 := gH12.kept (hkH20 _ (by omega))
  have gH15 := gH15.kept (hkH20 _ (by omega))
  have gH18 := gH18.kept (hkH20 _ (by omega))
  have hsz : H20.size = s.heap.size + 7 := hzH20
  refine lv_dup hx hb dX0_init_102 rfl ?_
  refine dp_INv hF hK hN hO (c_X2_init l D G (s.heap.size + 6)  _ f20) ⟨va_cnB 0 hts gX0_init_X2_init_n30 rfl rfl rfl hN.2.1 (hts (.initialized RX2) (List.mem_of_getElem? (i := 13) rfl)) (by decide +kernel) ⟨Nat.le_of_ble_eq_true rfl, Nat.le_of_ble_eq_true rfl⟩, rfl, (hts (.instanceMethod yX2_init) (List.mem_of_getElem? (i := 21) rfl))⟩ hS (fun q hq => by have hq : q = s.heap.size + 6 := hq; exact Or.inr (by omega)) [.ref (s.heap.size + 6), .int 0, .ref (s.heap.size + 1)] rfl rfl hl.1 (Nat.le_of_ble_eq_true rfl) dX0_init_103 ⟨Nat.le_of_ble_eq_true rfl, Nat.le_of_ble_eq_true rfl⟩ (fun H21 locs hp hzH21 hkH21 hS => ?_)
  have ha := ha.kept (hkH21 (a) (by omega) (by show ¬ (_ = _); omega))
  have f1 := f1.kept (hkH21 (s.heap.size) (by omega) (by show ¬ (_ = _); omega))
  have f3 := f3.kept (hkH21 (s.heap.size + 1) (by omega) (by show ¬ (_ = _); omega))
  have f5 := f5.kept (hkH21 (s.heap.size + 2) (by omega) (by show ¬ (_ = _); omega))
  have gH12 := gH12.kept (hkH21 (s.heap.size + 3) (by omega) (by show ¬ (_ = _); omega))
  have gH15 := gH15.kept (hkH21 (s.heap.size + 4) (by omega) (by show ¬ (_ = _); omega))
  have gH18 := gH18.kept (hkH21 (s.heap.size + 5) (by omega) (by show ¬ (_ = _); omega))
  obtain ⟨hz9, gH21⟩ := hp
  have hsz : H21.size = s.heap.size + 7 := hz9.trans hsz
  refine dp_aast (A := (fun q => q = a ∨ s.heap.size ≤ q)) hx hb hK f3 (Or.inr (by omega)) hS 2 rfl gH21 rfl 0 rfl (by decide) (by decide) dX0_init_106 (fun H22 locs h9H22 hzH22 hkH22 hS => ?_)
  have ha := ha.kept (hkH22 _ (by omega))
  have f1 := f1.kept (hkH22 _ (by omega))
  have f5 := f5.kept (hkH22 _ (by omega))
  have gH12 := gH12.kept (hkH22 _ (by omega))
  have gH15 := gH15.kept (hkH22 _ (by omega))
  have gH18 := gH18.kept (hkH22 _ (by omega))
  have gH21 := gH21.kept (hkH22 _ (by omega))
  have f3 := h9H22
  have hsz : H22.size = s.heap.size + 7 := hzH22.trans hsz
  refine lv_iinc (v := 1) (lv' := [(1, .int (1)), (0, .ref a)]) hx hb dX0_init_107 hl (k := 0) rfl rfl (by decide) rfl (fun ls hl => ?_)
  refine lv_goto (tgt := 85) hx hb dX0_init_110 (by decide) ?_
  refine lv_iload_n hx hb dX0_init_85 rfl (lv_at hl 0 rfl) ?_
  refine lv_aload_n hx hb dX0_init_86 rfl (lv_at hl 1 rfl) ?_
  refine dp_get hx hb hts (dp_hin 25 rfl) hown hK ha rfl 1 (by decide) (hts (.fieldLink RX0 19 "DroopBoard$Board" "feeders" "[LDroopBoard$Feeder;") (List.mem_of_getElem? (i := 7) rfl)) rfl dX0_init_87 ?_
  refine dp_alen hx hb hK f3 2 rfl dX0_init_90 ?_
  refine lv_icmp_ge (tgt := 113) hx hb dX0_init_91 (by decide) (fun c6 => absurd c6 (by decide)) (fun c6 => ?_)
  refine lv_aload_n hx hb dX0_init_94 rfl (lv_at hl 1 rfl) ?_
  refine dp_get hx hb hts (dp_hin 25 rfl) hown hK ha rfl 1 (by decide) (hts (.fieldLink RX0 19 "DroopBoard$Board" "feeders" "[LDroopBoard$Feeder;") (List.mem_of_getElem? (i := 7) rfl)) rfl dX0_init_95 ?_
  refine lv_iload_n hx hb dX0_init_98 rfl (lv_at hl 0 rfl) ?_
  refine dp_new (ci := 2) (C := RX2) (T := TX2) (N := 3) (fs := [.int 0, .int 0, .int 0]) hx hb hts (dp_hin 40 rfl) tyX2 tyX2_ok hown (hts (.classLink RX0 17 RX2) (List.mem_of_getElem? (i := 6) rfl)) (hts (.instantiable RX2 3) (List.mem_of_getElem? (i := 12) rfl)) (hts (.initialized RX2) (List.mem_of_getElem? (i := 13) rfl)) hK hS rfl (fun j hj => by rcases (show j = 0 ∨ j = 1 ∨ j = 2 by omega) with rfl | rfl | rfl <;> rfl) (Nat.le_of_ble_eq_true rfl) (Nat.le_of_ble_eq_true rfl) dX0_init_99 (s.heap.size + 7) hsz (fun H23 f23 hzH23 hkH23 hS => ?_)
  have ha := ha.kept (hkH23 _ (by omega))
  have f1 := f1.kept (hkH23 _ (by omega))
  have f3 := f3.kept (hkH23 _ (by omega))
  have f5 := f5.kept (hkH23 _ (by omega))
  have gH12 := gH12.kept (hkH23 _ (by omega))
  have gH15 := gH15.kept (hkH23 _ (by omega))
  have gH18 := gH18.kept (hkH23 _ (by omega))
  have gH21 := gH21.kept (hkH23 _ (by omega))
  have hsz : H23.size = s.heap.size + 8 := hzH23
  refine lv_dup hx hb dX0_init_102 rfl ?_
  refine dp_INv hF hK hN hO (c_X2_init l D G (s.heap.size + 7)  _ f23) ⟨va_cnB 0 hts gX0_init_X2_init_n30 rfl rfl rfl hN.2.1 (hts (.initialized RX2) (List.mem_of_getElem? (i := 13) rfl)) (by decide +kernel) ⟨Nat.le_of_ble_eq_true rfl, Nat.le_of_ble_eq_true rfl⟩, rfl, (hts (.instanceMethod yX2_init) (List.mem_of_getElem? (i := 21) rfl))⟩ hS (fun q hq => by have hq : q = s.heap.size + 7 := hq; exact Or.inr (by omega)) [.ref (s.heap.size + 7), .int (1), .ref (s.heap.size + 1)] rfl rfl hl.1 (Nat.le_of_ble_eq_true rfl) dX0_init_103 ⟨Nat.le_of_ble_eq_true rfl, Nat.le_of_ble_eq_true rfl⟩ (fun H24 locs hp hzH24 hkH24 hS => ?_)
  have ha := ha.kept (hkH24 (a) (by omega) (by show ¬ (_ = _); omega))
  have f1 := f1.kept (hkH24 (s.heap.size) (by omega) (by show ¬ (_ = _); omega))
  have f3 := f3.kept (hkH24 (s.heap.size + 1) (by omega) (by show ¬ (_ = _); omega))
  have f5 := f5.kept (hkH24 (s.heap.size + 2) (by omega) (by show ¬ (_ = _); omega))
  have gH12 := gH12.kept (hkH24 (s.heap.size + 3) (by omega) (by show ¬ (_ = _); omega))
  have gH15 := gH15.kept (hkH24 (s.heap.size + 4) (by omega) (by show ¬ (_ = _); omega))
  have gH18 := gH18.kept (hkH24 (s.heap.size + 5) (by omega) (by show ¬ (_ = _); omega))
  have gH21 := gH21.kept (hkH24 (s.heap.size + 6) (by omega) (by show ¬ (_ = _); omega))
  obtain ⟨hz9, gH24⟩ := hp
  have hsz : H24.size = s.heap.size + 8 := hz9.trans hsz
  refine dp_aast (A := (fun q => q = a ∨ s.heap.size ≤ q)) hx hb hK f3 (Or.inr (by omega)) hS 2 rfl gH24 rfl 1 rfl (by decide) (by decide) dX0_init_106 (fun H25 locs h9H25 hzH25 hkH25 hS => ?_)
  have ha := ha.kept (hkH25 _ (by omega))
  have f1 := f1.kept (hkH25 _ (by omega))
  have f5 := f5.kept (hkH25 _ (by omega))
  have gH12 := gH12.kept (hkH25 _ (by omega))
  have gH15 := gH15.kept (hkH25 _ (by omega))
  have gH18 := gH18.kept (hkH25 _ (by omega))
  have gH21 := gH21.kept (hkH25 _ (by omega))
  have gH24 := gH24.kept (hkH25 _ (by omega))
  have f3 := h9H25
  have hsz : H25.size = s.heap.size + 8 := hzH25.trans hsz
  refine lv_iinc (v := 2) (lv' := [(1, .int (2)), (0, .ref a)]) hx hb dX0_init_107 hl (k := 0) rfl rfl (by decide) rfl (fun ls hl => ?_)
  refine lv_goto (tgt := 85) hx hb dX0_init_110 (by decide) ?_
  refine lv_iload_n hx hb dX0_init_85 rfl (lv_at hl 0 rfl) ?_
  refine lv_aload_n hx hb dX0_init_86 rfl (lv_at hl 1 rfl) ?_
  refine dp_get hx hb hts (dp_hin 25 rfl) hown hK ha rfl 1 (by decide) (hts (.fieldLink RX0 19 "DroopBoard$Board" "feeders" "[LDroopBoard$Feeder;") (List.mem_of_getElem? (i := 7) rfl)) rfl dX0_init_87 ?_
  refine dp_alen hx hb hK f3 2 rfl dX0_init_90 ?_
  refine lv_icmp_ge (tgt := 113) hx hb dX0_init_91 (by decide) (fun c7 => absurd c7 (by decide)) (fun c7 => ?_)
  refine lv_aload_n hx hb dX0_init_94 rfl (lv_at hl 1 rfl) ?_
  refine dp_get hx hb hts (dp_hin 25 rfl) hown hK ha rfl 1 (by decide) (hts (.fieldLink RX0 19 "DroopBoard$Board" "feeders" "[LDroopBoard$Feeder;") (List.mem_of_getElem? (i := 7) rfl)) rfl dX0_init_95 ?_
  refine lv_iload_n hx hb dX0_init_98 rfl (lv_at hl 0 rfl) ?_
  refine dp_new (ci := 2) (C := RX2) (T := TX2) (N := 3) (fs := [.int 0, .int 0, .int 0]) hx hb hts (dp_hin 40 rfl) tyX2 tyX2_ok hown (hts (.classLink RX0 17 RX2) (List.mem_of_getElem? (i := 6) rfl)) (hts (.instantiable RX2 3) (List.mem_of_getElem? (i := 12) rfl)) (hts (.initialized RX2) (List.mem_of_getElem? (i := 13) rfl)) hK hS rfl (fun j hj => by rcases (show j = 0 ∨ j = 1 ∨ j = 2 by omega) with rfl | rfl | rfl <;> rfl) (Nat.le_of_ble_eq_true rfl) (Nat.le_of_ble_eq_true rfl) dX0_init_99 (s.heap.size + 8) hsz (fun H26 f26 hzH26 hkH26 hS => ?_)
  have ha := ha.kept (hkH26 _ (by omega))
  have f1 := f1.kept (hkH26 _ (by omega))
  have f3 := f3.kept (hkH26 _ (by omega))
  have f5 := f5.kept (hkH26 _ (by omega))
  have gH12 := gH12.kept (hkH26 _ (by omega))
  have gH15 := gH15.kept (hkH26 _ (by omega))
  have gH18 := gH18.kept (hkH26 _ (by omega))
  have gH21 := gH21.kept (hkH26 _ (by omega))
  have gH24 := gH24.kept (hkH26 _ (by omega))
  have hsz : H26.size = s.heap.size + 9 := hzH26
  refine lv_dup hx hb dX0_init_102 rfl ?_
  refine dp_INv hF hK hN hO (c_X2_init l D G (s.heap.size + 8)  _ f26) ⟨va_cnB 0 hts gX0_init_X2_init_n30 rfl rfl rfl hN.2.1 (hts (.initialized RX2) (List.mem_of_getElem? (i := 13) rfl)) (by decide +kernel) ⟨Nat.le_of_ble_eq_true rfl, Nat.le_of_ble_eq_true rfl⟩, rfl, (hts (.instanceMethod yX2_init) (List.mem_of_getElem? (i := 21) rfl))⟩ hS (fun q hq => by have hq : q = s.heap.size + 8 := hq; exact Or.inr (by omega)) [.ref (s.heap.size + 8), .int (2), .ref (s.heap.size + 1)] rfl rfl hl.1 (Nat.le_of_ble_eq_true rfl) dX0_init_103 ⟨Nat.le_of_ble_eq_true rfl, Nat.le_of_ble_eq_true rfl⟩ (fun H27 locs hp hzH27 hkH27 hS => ?_)
  have ha := ha.kept (hkH27 (a) (by omega) (by show ¬ (_ = _); omega))
  have f1 := f1.kept (hkH27 (s.heap.size) (by omega) (by show ¬ (_ = _); omega))
  have f3 := f3.kept (hkH27 (s.heap.size + 1) (by omega) (by show ¬ (_ = _); omega))
  have f5 := f5.kept (hkH27 (s.heap.size + 2) (by omega) (by show ¬ (_ = _); omega))
  have gH12 := gH12.kept (hkH27 (s.heap.size + 3) (by omega) (by show ¬ (_ = _); omega))
  have gH15 := gH15.kept (hkH27 (s.heap.size + 4) (by omega) (by show ¬ (_ = _); omega))
  have gH18 := gH18.kept (hkH27 (s.heap.size + 5) (by omega) (by show ¬ (_ = _); omega))
  have gH21 := gH21.kept (hkH27 (s.heap.size + 6) (by omega) (by show ¬ (_ = _); omega))
  have gH24 := gH24.kept (hkH27 (s.heap.size + 7) (by omega) (by show ¬ (_ = _); omega))
  obtain ⟨hz9, gH27⟩ := hp
  have hsz : H27.size = s.heap.size + 9 := hz9.trans hsz
  refine dp_aast (A := (fun q => q = a ∨ s.heap.size ≤ q)) hx hb hK f3 (Or.inr (by omega)) hS 2 rfl gH27 rfl 2 rfl (by decide) (by decide) dX0_init_106 (fun H28 locs h9H28 hzH28 hkH28 hS => ?_)
  have ha := ha.kept (hkH28 _ (by omega))
  have f1 := f1.kept (hkH28 _ (by omega))
  have f5 := f5.kept (hkH28 _ (by omega))
  have gH12 := gH12.kept (hkH28 _ (by omega))
  have gH15 := gH15.kept (hkH28 _ (by omega))
  have gH18 := gH18.kept (hkH28 _ (by omega))
  have gH21 := gH21.kept (hkH28 _ (by omega))
  have gH24 := gH24.kept (hkH28 _ (by omega))
  have gH27 := gH27.kept (hkH28 _ (by omega))
  have f3 := h9H28
  have hsz : H28.size = s.heap.size + 9 := hzH28.trans hsz
  refine lv_iinc (v := 3) (lv' := [(1, .int (3)), (0, .ref a)]) hx hb dX0_init_107 hl (k := 0) rfl rfl (by decide) rfl (fun ls hl => ?_)
  refine lv_goto (tgt := 85) hx hb dX0_init_110 (by decide) ?_
  refine lv_iload_n hx hb dX0_init_85 rfl (lv_at hl 0 rfl) ?_
  refine lv_aload_n hx hb dX0_init_86 rfl (lv_at hl 1 rfl) ?_
  refine dp_get hx hb hts (dp_hin 25 rfl) hown hK ha rfl 1 (by decide) (hts (.fieldLink RX0 19 "DroopBoard$Board" "feeders" "[LDroopBoard$Feeder;") (List.mem_of_getElem? (i := 7) rfl)) rfl dX0_init_87 ?_
  refine dp_alen hx hb hK f3 2 rfl dX0_init_90 ?_
  refine lv_icmp_ge (tgt := 113) hx hb dX0_init_91 (by decide) (fun c8 => absurd c8 (by decide)) (fun c8 => ?_)
  refine lv_aload_n hx hb dX0_init_94 rfl (lv_at hl 1 rfl) ?_
  refine dp_get hx hb hts (dp_hin 25 rfl) hown hK ha rfl 1 (by decide) (hts (.fieldLink RX0 19 "DroopBoard$Board" "feeders" "[LDroopBoard$Feeder;") (List.mem_of_getElem? (i := 7) rfl)) rfl dX0_init_95 ?_
  refine lv_iload_n hx hb dX0_init_98 rfl (lv_at hl 0 rfl) ?_
  refine dp_new (ci := 2) (C := RX2) (T := TX2) (N := 3) (fs := [.int 0, .int 0, .int 0]) hx hb hts (dp_hin 40 rfl) tyX2 tyX2_ok hown (hts (.classLink RX0 17 RX2) (List.mem_of_getElem? (i := 6) rfl)) (hts (.instantiable RX2 3) (List.mem_of_getElem? (i := 12) rfl)) (hts (.initialized RX2) (List.mem_of_getElem? (i := 13) rfl)) hK hS rfl (fun j hj => by rcases (show j = 0 ∨ j = 1 ∨ j = 2 by omega) with rfl | rfl | rfl <;> rfl) (Nat.le_of_ble_eq_true rfl) (Nat.le_of_ble_eq_true rfl) dX0_init_99 (s.heap.size + 9) hsz (fun H29 f29 hzH29 hkH29 hS => ?_)
  have ha := ha.kept (hkH29 _ (by omega))
  have f1 := f1.kept (hkH29 _ (by omega))
  have f3 := f3.kept (hkH29 _ (by omega))
  have f5 := f5.kept (hkH29 _ (by omega))
  have gH12 := gH12.kept (hkH29 _ (by omega))
  have gH15 := gH15.kept (hkH29 _ (by omega))
  have gH18 := gH18.kept (hkH29 _ (by omega))
  have gH21 := gH21.kept (hkH29 _ (by omega))
  have gH24 := gH24.kept (hkH29 _ (by omega))
  have gH27 := gH27.kept (hkH29 _ (by omega))
  have hsz : H29.size = s.heap.size + 10 := hzH29
  refine lv_dup hx hb dX0_init_102 rfl ?_
  refine dp_INv hF hK hN hO (c_X2_init l D G (s.heap.size + 9)  _ f29) ⟨va_cnB 0 hts gX0_init_X2_init_n30 rfl rfl rfl hN.2.1 (hts (.initialized RX2) (List.mem_of_getElem? (i := 13) rfl)) (by decide +kernel) ⟨Nat.le_of_ble_eq_true rfl, Nat.le_of_ble_eq_true rfl⟩, rfl, (hts (.instanceMethod yX2_init) (List.mem_of_getElem? (i := 21) rfl))⟩ hS (fun q hq => by have hq : q = s.heap.size + 9 := hq; exact Or.inr (by omega)) [.ref (s.heap.size + 9), .int (3), .ref (s.heap.size + 1)] rfl rfl hl.1 (Nat.le_of_ble_eq_true rfl) dX0_init_103 ⟨Nat.le_of_ble_eq_true rfl, Nat.le_of_ble_eq_true rfl⟩ (fun H30 locs hp hzH30 hkH30 hS => ?_)
  have ha := ha.kept (hkH30 (a) (by omega) (by show ¬ (_ = _); omega))
  have f1 := f1.kept (hkH30 (s.heap.size) (by omega) (by show ¬ (_ = _); omega))
  have f3 := f3.kept (hkH30 (s.heap.size + 1) (by omega) (by show ¬ (_ = _); omega))
  have f5 := f5.kept (hkH30 (s.heap.size + 2) (by omega) (by show ¬ (_ = _); omega))
  have gH12 := gH12.kept (hkH30 (s.heap.size + 3) (by omega) (by show ¬ (_ = _); omega))
  have gH15 := gH15.kept (hkH30 (s.heap.size + 4) (by omega) (by show ¬ (_ = _); omega))
  have gH18 := gH18.kept (hkH30 (s.heap.size + 5) (by omega) (by show ¬ (_ = _); omega))
  have gH21 := gH21.kept (hkH30 (s.heap.size + 6) (by omega) (by show ¬ (_ = _); omega))
  have gH24 := gH24.kept (hkH30 (s.heap.size + 7) (by omega) (by show ¬ (_ = _); omega))
  have gH27 := gH27.kept (hkH30 (s.heap.size + 8) (by omega) (by show ¬ (_ = _); omega))
  obtain ⟨hz9, gH30⟩ := hp
  have hsz : H30.size = s.heap.size + 10 := hz9.trans hsz
  refine dp_aast (A := (fun q => q = a ∨ s.heap.size ≤ q)) hx hb hK f3 (Or.inr (by omega)) hS 2 rfl gH30 rfl 3 rfl (by decide) (by decide) dX0_init_106 (fun H31 locs h9H31 hzH31 hkH31 hS => ?_)
  have ha := ha.kept (hkH31 _ (by omega))
  have f1 := f1.kept (hkH31 _ (by omega))
  have f5 := f5.kept (hkH31 _ (by omega))
  have gH12 := gH12.kept (hkH31 _ (by omega))
  have gH15 := gH15.kept (hkH31 _ (by omega))
  have gH18 := gH18.kept (hkH31 _ (by omega))
  have gH21 := gH21.kept (hkH31 _ (by omega))
  have gH24 := gH24.kept (hkH31 _ (by omega))
  have gH27 := gH27.kept (hkH31 _ (by omega))
  have gH30 := gH30.kept (hkH31 _ (by omega))
  have f3 := h9H31
  have hsz : H31.size = s.heap.size + 10 := hzH31.trans hsz
  refine lv_iinc (v := 4) (lv' := [(1, .int (4)), (0, .ref a)]) hx hb dX0_init_107 hl (k := 0) rfl rfl (by decide) rfl (fun ls hl => ?_)
  refine lv_goto (tgt := 85) hx hb dX0_init_110 (by decide) ?_
  refine lv_iload_n hx hb dX0_init_85 rfl (lv_at hl 0 rfl) ?_
  refine lv_aload_n hx hb dX0_init_86 rfl (lv_at hl 1 rfl) ?_
  refine dp_get hx hb hts (dp_hin 25 rfl) hown hK ha rfl 1 (by decide) (hts (.fieldLink RX0 19 "DroopBoard$Board" "feeders" "[LDroopBoard$Feeder;") (List.mem_of_getElem? (i := 7) rfl)) rfl dX0_init_87 ?_
  refine dp_alen hx hb hK f3 2 rfl dX0_init_90 ?_
  refine lv_icmp_ge (tgt := 113) hx hb dX0_init_91 (by decide) (fun c9 => ?_) (fun c9 => absurd (by decide) c9)
  exact W.vret hx hb hr (fun t ht hW => ⟨⟨H31, rfl, ⟨hsz, BD.mk9 (b := bb a s.heap.size) ha (at_up3 f1 rfl rfl rfl) (at_up4 f3 rfl rfl rfl rfl) (set_r0 f5) gH12 gH15 gH18 gH21 gH24 gH27 gH30⟩, ht⟩, hS.F ht⟩) hS.2.2 dX0_init_113
