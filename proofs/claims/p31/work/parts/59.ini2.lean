set_option maxHeartbeats 8000000 in
set_option maxRecDepth 100000 in
theorem c_X4_init (l : Launch) (D : va_G) (G : Nat → ClassId) (a : Nat) (H : Heap) (ha : va_at D vwCl (a, .inr (4, [.null, .int 0])) H) : Met l yX4_init wsX4_init ({ frames := 1, cells := 1, slots := 60, locals := 20 } : Room) (va_Pc [.ref a] (CK D G H)) (QV (fun q => q = a ∨ H.size ≤ q) (fun h => h.size = H.size + 1 ∧ va_at D vwCl (a, .inr (4, [.ref H.size, .int 0])) h ∧ va_at D vwCl (H.size, .inl (G 0, 60, .inl (fun _ => 0))) h)) 1 60 ((fun q => q = a ∨ H.size ≤ q)) := by
  refine Met.ofW (cc := cX4_init) (maxL := 1) (ret := none) (by decide) rfl ?_
  intro p e s m args below meth c s₁ B0 hml hv
  obtain ⟨rfl, ⟨rfl, hK, hN⟩, hO⟩ := hv
  have hin9 : meth.name = "<init>" := (name_of_methodNamed B0.named B0.method).1
  have hx := B0.exec
  have hb := B0.bytes
  have hr := B0.returns
  have hts := atoms_spec (ws := wsX4_init) B0.pre
  have hw0_ := (hts (.methodLink RX4 3 objectInit) (List.mem_of_getElem? (i := 1) rfl))
  have hw1_ := (hts (.instanceMethod objectInit) (List.mem_of_getElem? (i := 2) rfl))
  have hw2_ := (hts (.code objectInit ⟨#[0xb1]⟩ 1 none) (List.mem_of_getElem? (i := 3) rfl))
  have hw3_ := (hts (.arrayClass .int) (List.mem_of_getElem? (i := 4) rfl))
  have hw4_ := (hts (.fieldLink RX4 9 "DroopBoard$OrderText" "codes" "[I") (List.mem_of_getElem? (i := 5) rfl))
  have hi4_ : ∀ w ∈ u_ws RX4 TX4 2, w ∈ wsX4_init := (dp_hin 6 rfl)
  have hown : s.vm.findClass RX4 = some m.cls := findClass_of_methodNamed B0.named
  have hlocks := B0.notSynchronized
  have hF : CallFix p m c cX4_init 1 s ([.ref a] : List Value).toArray wsX4_init RX4 := ⟨hx, hb, hml, hown, hts⟩
  have hS : va_S ((fun q => q = a ∨ s.heap.size ≤ q)) s.heap s.heap [] := va_S.rf
  have hl := lv_entry ([.ref a]) (n := 1) (Nat.le_of_ble_eq_true rfl)
  rw [lg_entry_eq]
  generalize (lg_sl ([.ref a]) ++ List.replicate (1 - (lg_sl ([.ref a])).length) Slot.unset).toArray = ls at hl ⊢
  have hl : lv_has ls 1 [(0, .ref a)] := hl
  have ha0 : a < s.heap.size := ha.lt
  have hsz : s.heap.size = s.heap.size := rfl
  refine lv_aload_n hx hb dX4_init_0 rfl (lv_at hl 0 rfl) ?_
  refine W.objInit hx hb hown hw0_ hw1_ hw2_ rfl (by rw [hml]; exact hl.1) rfl dX4_init_1 (Nat.le_of_ble_eq_true rfl) (Nat.le_of_ble_eq_true rfl) ?_
  change W p l e (headSpec wsX4_init ({ frames := 1, cells := 1, slots := 60, locals := 20 } : Room)).room s m ([.ref a] : List Value).toArray below meth c s.heap _ 0 0 (MQ below (QV (fun q => q = a ∨ s.heap.size ≤ q) (fun h => h.size = s.heap.size + 1 ∧ va_at D vwCl (a, .inr (4, [.ref s.heap.size, .int 0])) h ∧ va_at D vwCl (s.heap.size, .inl (G 0, 60, .inl (fun _ => 0))) h)) ([.ref a] : List Value).toArray s 1 60 ((fun q => q = a ∨ s.heap.size ≤ q))) (F0 m 4 ls [])
  refine lv_aload_n hx hb dX4_init_4 rfl (lv_at hl 0 rfl) ?_
  refine lv_bipush (v := 60) hx hb dX4_init_5 (by decide) ?_
  refine dp_newi hx hb hw3_ hK 0 rfl hS 60 rfl (by omega) (Nat.le_of_ble_eq_true rfl) (Nat.le_of_ble_eq_true rfl) dX4_init_7 s.heap.size hsz (fun H1 f1 hzH1 hkH1 hS => ?_)
  replace ha := ha.kept (hkH1 _ (by omega))
  replace hsz : H1.size = s.heap.size + 1 := hzH1
  clear hzH1
  refine dp_putF (A := (fun q => q = a ∨ s.heap.size ≤ q)) (v := .ref s.heap.size) hx hb hts hi4_ tyX4 tyX4_ok nmX4 hown hK ha (Or.inl rfl) hS rfl 0 (by decide) hw4_ rfl hin9 rfl rfl rfl (Nat.le_of_ble_eq_true rfl) dX4_init_9 (fun H2 locs hH2 hzH2 hkH2 hS => ?_)
  replace f1 := f1.kept (hkH2 _ (by omega))
  have ha := hH2
  replace hsz : H2.size = s.heap.size + 1 := hzH2.trans hsz
  clear hzH2
  exact W.vret hx hb hr (fun t ht hW => ⟨⟨H2, rfl, ⟨hsz, ha, f1⟩, ht⟩, hS.F ht⟩) hS.2.2 dX4_init_12

set_option maxHeartbeats 8000000 in
set_option maxRecDepth 100000 in
theorem c_X3_init (l : Launch) (D : va_G) (G : Nat → ClassId) (a : Nat) (H : Heap) (ha : va_at D vwCl (a, .inr (3, [.null, .int 0])) H) : Met l yX3_init wsX3_init ({ frames := 3, cells := 67, slots := 354, locals := 62 } : Room) (va_Pc [.ref a] (CK D G H)) (QV (fun q => q = a ∨ H.size ≤ q) (fun h => h.size = H.size + 67 ∧ va_at D vwCl (a, .inr (3, [.ref H.size, .int 0])) h ∧ va_at D vwCl (H.size, .inl (G 3, 6, rfs (fun i => some (H.size + 1 + 11 * i)))) h ∧ ∀ i, i < 6 → BD D G (fun k => H.size + 1 + 11 * i + k) r0 h)) 67 354 ((fun q => q = a ∨ H.size ≤ q)) := by
  refine Met.ofW (cc := cX3_init) (maxL := 2) (ret := none) (by decide) rfl ?_
  intro p e s m args below meth c s₁ B0 hml hv
  obtain ⟨rfl, ⟨rfl, hK, hN⟩, hO⟩ := hv
  have hin9 : meth.name = "<init>" := (name_of_methodNamed B0.named B0.method).1
  have hx := B0.exec
  have hb := B0.bytes
  have hr := B0.returns
  have hts := atoms_spec (ws := wsX3_init) B0.pre
  have hw0_ := (hts (.methodLink RX3 3 objectInit) (List.mem_of_getElem? (i := 1) rfl))
  have hw1_ := (hts (.instanceMethod objectInit) (List.mem_of_getElem? (i := 2) rfl))
  have hw2_ := (hts (.code objectInit ⟨#[0xb1]⟩ 1 none) (List.mem_of_getElem? (i := 3) rfl))
  have hw3_ := (hts (.classLink RX3 9 RX0) (List.mem_of_getElem? (i := 4) rfl))
  have hw4_ := (hts (.fieldLink RX3 11 "DroopBoard$History" "states" "[LDroopBoard$Board;") (List.mem_of_getElem? (i := 5) rfl))
  have hw5_ := (hts (.instantiable RX0 5) (List.mem_of_getElem? (i := 6) rfl))
  have hw6_ := (hts (.initialized RX0) (List.mem_of_getElem? (i := 7) rfl))
  have hw7_ := (hts (.methodLink RX3 17 yX0_init) (List.mem_of_getElem? (i := 8) rfl))
  have hw8_ := (hts (.instanceMethod yX0_init) (List.mem_of_getElem? (i := 9) rfl))
  have hi3_ : ∀ w ∈ u_ws RX3 TX3 2, w ∈ wsX3_init := (dp_hin 33 rfl)
  have hi0_ : ∀ w ∈ u_ws RX0 TX0 5, w ∈ wsX3_init := (dp_hin 35 rfl)
  have hown : s.vm.findClass RX3 = some m.cls := findClass_of_methodNamed B0.named
  have hlocks := B0.notSynchronized
  have hF : CallFix p m c cX3_init 2 s ([.ref a] : List Value).toArray wsX3_init RX3 := ⟨hx, hb, hml, hown, hts⟩
  have hS : va_S ((fun q => q = a ∨ s.heap.size ≤ q)) s.heap s.heap [] := va_S.rf
  have hl := lv_entry ([.ref a]) (n := 2) (Nat.le_of_ble_eq_true rfl)
  rw [lg_entry_eq]
  generalize (lg_sl ([.ref a]) ++ List.replicate (2 - (lg_sl ([.ref a])).length) Slot.unset).toArray = ls at hl ⊢
  have hl : lv_has ls 2 [(0, .ref a)] := hl
  have ha0 : a < s.heap.size := ha.lt
  have hsz : s.heap.size = s.heap.size := rfl
  refine lv_aload_n hx hb dX3_init_0 rfl (lv_at hl 0 rfl) ?_
  refine W.objInit hx hb hown hw0_ hw1_ hw2_ rfl (by rw [hml]; exact hl.1) rfl dX3_init_1 (Nat.le_of_ble_eq_true rfl) (Nat.le_of_ble_eq_true rfl) ?_
  change W p l e (headSpec wsX3_init ({ frames := 3, cells := 67, slots := 354, locals := 62 } : Room)).room s m ([.ref a] : List Value).toArray below meth c s.heap _ 0 0 (MQ below (QV (fun q => q = a ∨ s.heap.size ≤ q) (fun h => h.size = s.heap.size + 67 ∧ va_at D vwCl (a, .inr (3, [.ref s.heap.size, .int 0])) h ∧ va_at D vwCl (s.heap.size, .inl (G 3, 6, rfs (fun i => some (s.heap.size + 1 + 11 * i)))) h ∧ ∀ i, i < 6 → BD D G (fun k => s.heap.size + 1 + 11 * i + k) r0 h)) ([.ref a] : List Value).toArray s 67 354 ((fun q => q = a ∨ s.heap.size ≤ q))) (F0 m 4 ls [])
  refine lv_aload_n hx hb dX3_init_4 rfl (lv_at hl 0 rfl) ?_
  refine lv_bipush (v := 6) hx hb dX3_init_5 (by decide) ?_
  refine dp_newq hx hb hown hw3_ hO.2.2 hK 3 rfl hS 6 rfl (by omega) (Nat.le_of_ble_eq_true rfl) (Nat.le_of_ble_eq_true rfl) dX3_init_7 s.heap.size hsz (fun H1 f1 hzH1 hkH1 hS => ?_)
  replace ha := ha.kept (hkH1 _ (by omega))
  replace hsz : H1.size = s.heap.size + 1 := hzH1
  clear hzH1
  refine dp_putF (A := (fun q => q = a ∨ s.heap.size ≤ q)) (v := .ref s.heap.size) hx hb hts hi3_ tyX3 tyX3_ok nmX3 hown hK ha (Or.inl rfl) hS rfl 0 (by decide) hw4_ rfl hin9 rfl rfl rfl (Nat.le_of_ble_eq_true rfl) dX3_init_10 (fun H2 locs hH2 hzH2 hkH2 hS => ?_)
  replace f1 := f1.kept (hkH2 _ (by omega))
  have ha := hH2
  replace hsz : H2.size = s.heap.size + 1 := hzH2.trans hsz
  clear hzH2
  refine lv_iconst (v := 0) hx hb dX3_init_13 (by decide) ?_
  refine lv_istore_n (lv' := [(1, .int 0), (0, .ref a)]) hx hb dX3_init_14 rfl hl (by decide) rfl (fun ls hl => ?_)
  refine lv_iload_n hx hb dX3_init_15 rfl (lv_at hl 0 rfl) ?_
  refine lv_aload_n hx hb dX3_init_16 rfl (lv_at hl 1 rfl) ?_
  refine dp_get hx hb hts hi3_ hown hK ha rfl 0 (by decide) hw4_ rfl dX3_init_17 ?_
  refine dp_alen hx hb hK f1 3 rfl dX3_init_20 ?_
  refine lv_icmp_ge (tgt := 43) hx hb dX3_init_21 (by decide) (fun c1 => absurd c1 (by decide)) (fun c1 => ?_)
  refine lv_aload_n hx hb dX3_init_24 rfl (lv_at hl 1 rfl) ?_
  refine dp_get hx hb hts hi3_ hown hK ha rfl 0 (by decide) hw4_ rfl dX3_init_25 ?_
  refine lv_iload_n hx hb dX3_init_28 rfl (lv_at hl 0 rfl) ?_
  refine dp_new (ci := 0) (C := RX0) (T := TX0) (N := 5) (fs := [.null, .null, .null, .int 0, .int 0]) hx hb hts hi0_ tyX0 tyX0_ok hown hw3_ hw5_ hw6_ hK hS rfl (fun j hj => by rcases (show j = 0 ∨ j = 1 ∨ j = 2 ∨ j = 3 ∨ j = 4 by omega) with rfl | rfl | rfl | rfl | rfl <;> rfl) (Nat.le_of_ble_eq_true rfl) (Nat.le_of_ble_eq_true rfl) dX3_init_29 (s.heap.size + 1) hsz (fun H3 f3 hzH3 hkH3 hS => ?_)
  replace ha := ha.kept (hkH3 _ (by omega))
  replace f1 := f1.kept (hkH3 _ (by omega))
  replace hsz : H3.size = s.heap.size + 2 := hzH3
  clear hzH3
  refine lv_dup hx hb dX3_init_32 rfl ?_
  refine dp_Iv hF hK hN hO (c_X0_init l D G (s.heap.size + 1)  _ f3) (cwI 0 hts gX3_init_X0_init rfl rfl rfl hw6_ hw7_ hw8_ rfl (by decide +kernel) ⟨Nat.le_of_ble_eq_true rfl, Nat.le_of_ble_eq_true rfl⟩) hS (fun q hq => by rcases (show q = s.heap.size + 1 ∨ H3.size ≤ q from hq) with hq | hq; exact Or.inr (by omega); exact Or.inr (by omega)) [.ref (s.heap.size + 1), .int 0, .ref s.heap.size] rfl rfl hl.1 (Nat.le_of_ble_eq_true rfl) dX3_init_33 ⟨Nat.le_of_ble_eq_true rfl, Nat.le_of_ble_eq_true rfl⟩ (fun H4 locs hp hzH4 hkH4 hS => ?_)
  replace ha := ha.kept (hkH4 (a) (by omega) (by show ¬ (_ = _ ∨ _ ≤ _); omega))
  replace f1 := f1.kept (hkH4 (s.heap.size) (by omega) (by show ¬ (_ = _ ∨ _ ≤ _); omega))
  obtain ⟨hz9, gH4⟩ := hp
  rw [hsz] at hz9 gH4
  replace hsz : H4.size = s.heap.size + 12 := hz9
  clear hz9 hzH4
  have gH4 : BD D G (fun k9 => s.heap.size + 1 + k9) r0 H4 := by rw [← bb_at]; exact gH4
  refine dp_aast (A := (fun q => q = a ∨ s.heap.size ≤ q)) hx hb hK f1 (Or.inr (by omega)) hS 3 rfl gH4.1 rfl 0 rfl (by decide) (by decide) dX3_init_36 (fun H5 locs h9H5 hzH5 hkH5 hS => ?_)
  replace ha := ha.kept (hkH5 _ (by omega))
  replace gH4 := gH4.kept (fun k9 hk9 => hkH5 (s.heap.size + 1 + k9) (by omega))
  have f1 := h9H5
  replace hsz : H5.size = s.heap.size + 12 := hzH5.trans hsz
  clear hzH5
  refine lv_iinc (v := 1) (lv' := [(1, .int (1)), (0, .ref a)]) hx hb dX3_init_37 hl (k := 0) rfl rfl (by decide) rfl (fun ls hl => ?_)
  refine lv_goto (tgt := 15) hx hb dX3_init_40 (by decide) ?_
  refine lv_iload_n hx hb dX3_init_15 rfl (lv_at hl 0 rfl) ?_
  refine lv_aload_n hx hb dX3_init_16 rfl (lv_at hl 1 rfl) ?_
  refine dp_get hx hb hts hi3_ hown hK ha rfl 0 (by decide) hw4_ rfl dX3_init_17 ?_
  refine dp_alen hx hb hK f1 3 rfl dX3_init_20 ?_
  refine lv_icmp_ge (tgt := 43) hx hb dX3_init_21 (by decide) (fun c2 => absurd c2 (by decide)) (fun c2 => ?_)
  refine lv_aload_n hx hb dX3_init_24 rfl (lv_at hl 1 rfl) ?_
  refine dp_get hx hb hts hi3_ hown hK ha rfl 0 (by decide) hw4_ rfl dX3_init_25 ?_
  refine lv_iload_n hx hb dX3_init_28 rfl (lv_at hl 0 rfl) ?_
  refine dp_new (ci := 0) (C := RX0) (T := TX0) (N := 5) (fs := [.null, .null, .null, .int 0, .int 0]) hx hb hts hi0_ tyX0 tyX0_ok hown hw3_ hw5_ hw6_ hK hS rfl (fun j hj => by rcases (show j = 0 ∨ j = 1 ∨ j = 2 ∨ j = 3 ∨ j = 4 by omega) with rfl | rfl | rfl | rfl | rfl <;> rfl) (Nat.le_of_ble_eq_true rfl) (Nat.le_of_ble_eq_true rfl) dX3_init_29 (s.heap.size + 12) hsz (fun H6 f6 hzH6 hkH6 hS => ?_)
  replace ha := ha.kept (hkH6 _ (by omega))
  replace f1 := f1.kept (hkH6 _ (by omega))
  replace gH4 := gH4.kept (fun k9 hk9 => hkH6 (s.heap.size + 1 + k9) (by omega))
  replace hsz : H6.size = s.heap.size + 13 := hzH6
  clear hzH6
  refine lv_dup hx hb dX3_init_32 rfl ?_
  refine dp_Iv hF hK hN hO (c_X0_init l D G (s.heap.size + 12)  _ f6) (cwI 0 hts gX3_init_X0_init rfl rfl rfl hw6_ hw7_ hw8_ rfl (by decide +kernel) ⟨Nat.le_of_ble_eq_true rfl, Nat.le_of_ble_eq_true rfl⟩) hS (fun q hq => by rcases (show q = s.heap.size + 12 ∨ H6.size ≤ q from hq) with hq | hq; exact Or.inr (by omega); exact Or.inr (by omega)) [.ref (s.heap.size + 12), .int (1), .ref s.heap.size] rfl rfl hl.1 (Nat.le_of_ble_eq_true rfl) dX3_init_33 ⟨Nat.le_of_ble_eq_true rfl, Nat.le_of_ble_eq_true rfl⟩ (fun H7 locs hp hzH7 hkH7 hS => ?_)
  replace ha := ha.kept (hkH7 (a) (by omega) (by show ¬ (_ = _ ∨ _ ≤ _); omega))
  replace f1 := f1.kept (hkH7 (s.heap.size) (by omega) (by show ¬ (_ = _ ∨ _ ≤ _); omega))
  replace gH4 := gH4.kept (fun k9 hk9 => hkH7 (s.heap.size + 1 + k9) (by omega) (by show ¬ (_ = _ ∨ _ ≤ _); omega))
  obtain ⟨hz9, gH7⟩ := hp
  rw [hsz] at hz9 gH7
  replace hsz : H7.size = s.heap.size + 23 := hz9
  clear hz9 hzH7
  have gH7 : BD D G (fun k9 => s.heap.size + 12 + k9) r0 H7 := by rw [← bb_at]; exact gH7
  refine dp_aast (A := (fun q => q = a ∨ s.heap.size ≤ q)) hx hb hK f1 (Or.inr (by omega)) hS 3 rfl gH7.1 rfl 1 rfl (by decide) (by decide) dX3_init_36 (fun H8 locs h9H8 hzH8 hkH8 hS => ?_)
  replace ha := ha.kept (hkH8 _ (by omega))
  replace gH4 := gH4.kept (fun k9 hk9 => hkH8 (s.heap.size + 1 + k9) (by omega))
  replace gH7 := gH7.kept (fun k9 hk9 => hkH8 (s.heap.size + 12 + k9) (by omega))
  have f1 := h9H8
  replace hsz : H8.size = s.heap.size + 23 := hzH8.trans hsz
  clear hzH8
  refine lv_iinc (v := 2) (lv' := [(1, .int (2)), (0, .ref a)]) hx hb dX3_init_37 hl (k := 0) rfl rfl (by decide) rfl (fun ls hl => ?_)
  refine lv_goto (tgt := 15) hx hb dX3_init_40 (by decide) ?_
  refine lv_iload_n hx hb dX3_init_15 rfl (lv_at hl 0 rfl) ?_
  refine lv_aload_n hx hb dX3_init_16 rfl (lv_at hl 1 rfl) ?_
  refine dp_get hx hb hts hi3_ hown hK ha rfl 0 (by decide) hw4_ rfl dX3_init_17 ?_
  refine dp_alen hx hb hK f1 3 rfl dX3_init_20 ?_
  refine lv_icmp_ge (tgt := 43) hx hb dX3_init_21 (by decide) (fun c3 => absurd c3 (by decide)) (fun c3 => ?_)
  refine lv_aload_n hx hb dX3_init_24 rfl (lv_at hl 1 rfl) ?_
  refine dp_get hx hb hts hi3_ hown hK ha rfl 0 (by decide) hw4_ rfl dX3_init_25 ?_
  refine lv_iload_n hx hb dX3_init_28 rfl (lv_at hl 0 rfl) ?_
  refine dp_new (ci := 0) (C := RX0) (T := TX0) (N := 5) (fs := [.null, .null, .null, .int 0, .int 0]) hx hb hts hi0_ tyX0 tyX0_ok hown hw3_ hw5_ hw6_ hK hS rfl (fun j hj => by rcases (show j = 0 ∨ j = 1 ∨ j = 2 ∨ j = 3 ∨ j = 4 by omega) with rfl | rfl | rfl | rfl | rfl <;> rfl) (Nat.le_of_ble_eq_true rfl) (Nat.le_of_ble_eq_true rfl) dX3_init_29 (s.heap.size + 23) hsz (fun H9 f9 hzH9 hkH9 hS => ?_)
  replace ha := ha.kept (hkH9 _ (by omega))
  replace f1 := f1.kept (hkH9 _ (by omega))
  replace gH4 := gH4.kept (fun k9 hk9 => hkH9 (s.heap.size + 1 + k9) (by omega))
  replace gH7 := gH7.kept (fun k9 hk9 => hkH9 (s.heap.size + 12 + k9) (by omega))
  replace hsz : H9.size = s.heap.size + 24 := hzH9
  clear hzH9
  refine lv_dup hx hb dX3_init_32 rfl ?_
  refine dp_Iv hF hK hN hO (c_X0_init l D G (s.heap.size + 23)  _ f9) (cwI 0 hts gX3_init_X0_init rfl rfl rfl hw6_ hw7_ hw8_ rfl (by decide +kernel) ⟨Nat.le_of_ble_eq_true rfl, Nat.le_of_ble_eq_true rfl⟩) hS (fun q hq => by rcases (show q = s.heap.size + 23 ∨ H9.size ≤ q from hq) with hq | hq; exact Or.inr (by omega); exact Or.inr (by omega)) [.ref (s.heap.size + 23), .int (2), .ref s.heap.size] rfl rfl hl.1 (Nat.le_of_ble_eq_true rfl) dX3_init_33 ⟨Nat.le_of_ble_eq_true rfl, Nat.le_of_ble_eq_true rfl⟩ (fun H10 locs hp hzH10 hkH10 hS => ?_)
  replace ha := ha.kept (hkH10 (a) (by omega) (by show ¬ (_ = _ ∨ _ ≤ _); omega))
  replace f1 := f1.kept (hkH10 (s.heap.size) (by omega) (by show ¬ (_ = _ ∨ _ ≤ _); omega))
  replace gH4 := gH4.kept (fun k9 hk9 => hkH10 (s.heap.size + 1 + k9) (by omega) (by show ¬ (_ = _ ∨ _ ≤ _); omega))
  replace gH7 := gH7.kept (fun k9 hk9 => hkH10 (s.heap.size + 12 + k9) (by omega) (by show ¬ (_ = _ ∨ _ ≤ _); omega))
  obtain ⟨hz9, gH10⟩ := hp
  rw [hsz] at hz9 gH10
  replace hsz : H10.size = s.heap.size + 34 := hz9
  clear hz9 hzH10
  have gH10 : BD D G (fun k9 => s.heap.size + 23 + k9) r0 H10 := by rw [← bb_at]; exact gH10
  refine dp_aast (A := (fun q => q = a ∨ s.heap.size ≤ q)) hx hb hK f1 (Or.inr (by omega)) hS 3 rfl gH10.1 rfl 2 rfl (by decide) (by decide) dX3_init_36 (fun H11 locs h9H11 hzH11 hkH11 hS => ?_)
  replace ha := ha.kept (hkH11 _ (by omega))
  replace gH4 := gH4.kept (fun k9 hk9 => hkH11 (s.heap.size + 1 + k9) (by omega))
  replace gH7 := gH7.kept (fun k9 hk9 => hkH11 (s.heap.size + 12 + k9) (by omega))
  replace gH10 := gH10.kept (fun k9 hk9 => hkH11 (s.heap.size + 23 + k9) (by omega))
  have f1 := h9H11
  replace hsz : H11.size = s.heap.size + 34 := hzH11.trans hsz
  clear hzH11
  refine lv_iinc (v := 3) (lv' := [(1, .int (3)), (0, .ref a)]) hx hb dX3_init_37 hl (k := 0) rfl rfl (by decide) rfl (fun ls hl => ?_)
  refine lv_goto (tgt := 15) hx hb dX3_init_40 (by decide) ?_
  refine lv_iload_n hx hb dX3_init_15 rfl (lv_at hl 0 rfl) ?_
  refine lv_aload_n hx hb dX3_init_16 rfl (lv_at hl 1 rfl) ?_
  refine dp_get hx hb hts hi3_ hown hK ha rfl 0 (by decide) hw4_ rfl dX3_init_17 ?_
  refine dp_alen hx hb hK f1 3 rfl dX3_init_20 ?_
  refine lv_icmp_ge (tgt := 43) hx hb dX3_init_21 (by decide) (fun c4 => absurd c4 (by decide)) (fun c4 => ?_)
  refine lv_aload_n hx hb dX3_init_24 rfl (lv_at hl 1 rfl) ?_
  refine dp_get hx hb hts hi3_ hown hK ha rfl 0 (by decide) hw4_ rfl dX3_init_25 ?_
  refine lv_iload_n hx hb dX3_init_28 rfl (lv_at hl 0 rfl) ?_
  refine dp_new (ci := 0) (C := RX0) (T := TX0) (N := 5) (fs := [.null, .null, .null, .int 0, .int 0]) hx hb hts hi0_ tyX0 tyX0_ok hown hw3_ hw5_ hw6_ hK hS rfl (fun j hj => by rcases (show j = 0 ∨ j = 1 ∨ j = 2 ∨ j = 3 ∨ j = 4 by omega) with rfl | rfl | rfl | rfl | rfl <;> rfl) (Nat.le_of_ble_eq_true rfl) (Nat.le_of_ble_eq_true rfl) dX3_init_29 (s.heap.size + 34) hsz (fun H12 f12 hzH12 hkH12 hS => ?_)
  replace ha := ha.kept (hkH12 _ (by omega))
  replace f1 := f1.kept (hkH12 _ (by omega))
  replace gH4 := gH4.kept (fun k9 hk9 => hkH12 (s.heap.size + 1 + k9) (by omega))
  replace gH7 := gH7.kept (fun k9 hk9 => hkH12 (s.heap.size + 12 + k9) (by omega))
  replace gH10 := gH10.kept (fun k9 hk9 => hkH12 (s.heap.size + 23 + k9) (by omega))
  replace hsz : H12.size = s.heap.size + 35 := hzH12
  clear hzH12
  refine lv_dup hx hb dX3_init_32 rfl ?_
  refine dp_Iv hF hK hN hO (c_X0_init l D G (s.heap.size + 34)  _ f12) (cwI 0 hts gX3_init_X0_init rfl rfl rfl hw6_ hw7_ hw8_ rfl (by decide +kernel) ⟨Nat.le_of_ble_eq_true rfl, Nat.le_of_ble_eq_true rfl⟩) hS (fun q hq => by rcases (show q = s.heap.size + 34 ∨ H12.size ≤ q from hq) with hq | hq; exact Or.inr (by omega); exact Or.inr (by omega)) [.ref (s.heap.size + 34), .int (3), .ref s.heap.size] rfl rfl hl.1 (Nat.le_of_ble_eq_true rfl) dX3_init_33 ⟨Nat.le_of_ble_eq_true rfl, Nat.le_of_ble_eq_true rfl⟩ (fun H13 locs hp hzH13 hkH13 hS => ?_)
  replace ha := ha.kept (hkH13 (a) (by omega) (by show ¬ (_ = _ ∨ _ ≤ _); omega))
  replace f1 := f1.kept (hkH13 (s.heap.size) (by omega) (by show ¬ (_ = _ ∨ _ ≤ _); omega))
  replace gH4 := gH4.kept (fun k9 hk9 => hkH13 (s.heap.size + 1 + k9) (by omega) (by show ¬ (_ = _ ∨ _ ≤ _); omega))
  replace gH7 := gH7.kept (fun k9 hk9 => hkH13 (s.heap.size + 12 + k9) (by omega) (by show ¬ (_ = _ ∨ _ ≤ _); omega))
  replace gH10 := gH10.kept (fun k9 hk9 => hkH13 (s.heap.size + 23 + k9) (by omega) (by show ¬ (_ = _ ∨ _ ≤ _); omega))
  obtain ⟨hz9, gH13⟩ := hp
  rw [hsz] at hz9 gH13
  replace hsz : H13.size = s.heap.size + 45 := hz9
  clear hz9 hzH13
  have gH13 : BD D G (fun k9 => s.heap.size + 34 + k9) r0 H13 := by rw [← bb_at]; exact gH13
  refine dp_aast (A := (fun q => q = a ∨ s.heap.size ≤ q)) hx hb hK f1 (Or.inr (by omega)) hS 3 rfl gH13.1 rfl 3 rfl (by decide) (by decide) dX3_init_36 (fun H14 locs h9H14 hzH14 hkH14 hS => ?_)
  replace ha := ha.kept (hkH14 _ (by omega))
  replace gH4 := gH4.kept (fun k9 hk9 => hkH14 (s.heap.size + 1 + k9) (by omega))
  replace gH7 := gH7.kept (fun k9 hk9 => hkH14 (s.heap.size + 12 + k9) (by omega))
  replace gH10 := gH10.kept (fun k9 hk9 => hkH14 (s.heap.size + 23 + k9) (by omega))
  replace gH13 := gH13.kept (fun k9 hk9 => hkH14 (s.heap.size + 34 + k9) (by omega))
  have f1 := h9H14
  replace hsz : H14.size = s.heap.size + 45 := hzH14.trans hsz
  clear hzH14
  refine lv_iinc (v := 4) (lv' := [(1, .int (4)), (0, .ref a)]) hx hb dX3_init_37 hl (k := 0) rfl rfl (by decide) rfl (fun ls hl => ?_)
  refine lv_goto (tgt := 15) hx hb dX3_init_40 (by decide) ?_
  refine lv_iload_n hx hb dX3_init_15 rfl (lv_at hl 0 rfl) ?_
  refine lv_aload_n hx hb dX3_init_16 rfl (lv_at hl 1 rfl) ?_
  refine dp_get hx hb hts hi3_ hown hK ha rfl 0 (by decide) hw4_ rfl dX3_init_17 ?_
  refine dp_alen hx hb hK f1 3 rfl dX3_init_20 ?_
  refine lv_icmp_ge (tgt := 43) hx hb dX3_init_21 (by decide) (fun c5 => absurd c5 (by decide)) (fun c5 => ?_)
  refine lv_aload_n hx hb dX3_init_24 rfl (lv_at hl 1 rfl) ?_
  refine dp_get hx hb hts hi3_ hown hK ha rfl 0 (by decide) hw4_ rfl dX3_init_25 ?_
  refine lv_iload_n hx hb dX3_init_28 rfl (lv_at hl 0 rfl) ?_
  refine dp_new (ci := 0) (C := RX0) (T := TX0) (N := 5) (fs := [.null, .null, .null, .int 0, .int 0]) hx hb hts hi0_ tyX0 tyX0_ok hown hw3_ hw5_ hw6_ hK hS rfl (fun j hj => by rcases (show j = 0 ∨ j = 1 ∨ j = 2 ∨ j = 3 ∨ j = 4 by omega) with rfl | rfl | rfl | rfl | rfl <;> rfl) (Nat.le_of_ble_eq_true rfl) (Nat.le_of_ble_eq_true rfl) dX3_init_29 (s.heap.size + 45) hsz (fun H15 f15 hzH15 hkH15 hS => ?_)
  replace ha := ha.kept (hkH15 _ (by omega))
  replace f1 := f1.kept (hkH15 _ (by omega))
  replace gH4 := gH4.kept (fun k9 hk9 => hkH15 (s.heap.size + 1 + k9) (by omega))
  replace gH7 := gH7.kept (fun k9 hk9 => hkH15 (s.heap.size + 12 + k9) (by omega))
  replace gH10 := gH10.kept (fun k9 hk9 => hkH15 (s.heap.size + 23 + k9) (by omega))
  replace gH13 := gH13.kept (fun k9 hk9 => hkH15 (s.heap.size + 34 + k9) (by omega))
  replace hsz : H15.size = s.heap.size + 46 := hzH15
  clear hzH15
  refine lv_dup hx hb dX3_init_32 rfl ?_
  refine dp_Iv hF hK hN hO (c_X0_init l D G (s.heap.size + 45)  _ f15) (cwI 0 hts gX3_init_X0_init rfl rfl rfl hw6_ hw7_ hw8_ rfl (by decide +kernel) ⟨Nat.le_of_ble_eq_true rfl, Nat.le_of_ble_eq_true rfl⟩) hS (fun q hq => by rcases (show q = s.heap.size + 45 ∨ H15.size ≤ q from hq) with hq | hq; exact Or.inr (by omega); exact Or.inr (by omega)) [.ref (s.heap.size + 45), .int (4), .ref s.heap.size] rfl rfl hl.1 (Nat.le_of_ble_eq_true rfl) dX3_init_33 ⟨Nat.le_of_ble_eq_true rfl, Nat.le_of_ble_eq_true rfl⟩ (fun H16 locs hp hzH16 hkH16 hS => ?_)
  replace ha := ha.kept (hkH16 (a) (by omega) (by show ¬ (_ = _ ∨ _ ≤ _); omega))
  replace f1 := f1.kept (hkH16 (s.heap.size) (by omega) (by show ¬ (_ = _ ∨ _ ≤ _); omega))
  replace gH4 := gH4.kept (fun k9 hk9 => hkH16 (s.heap.size + 1 + k9) (by omega) (by show ¬ (_ = _ ∨ _ ≤ _); omega))
  replace gH7 := gH7.kept (fun k9 hk9 => hkH16 (s.heap.size + 12 + k9) (by omega) (by show ¬ (_ = _ ∨ _ ≤ _); omega))
  replace gH10 := gH10.kept (fun k9 hk9 => hkH16 (s.heap.size + 23 + k9) (by omega) (by show ¬ (_ = _ ∨ _ ≤ _); omega))
  replace gH13 := gH13.kept (fun k9 hk9 => hkH16 (s.heap.size + 34 + k9) (by omega) (by show ¬ (_ = _ ∨ _ ≤ _); omega))
  obtain ⟨hz9, gH16⟩ := hp
  rw [hsz] at hz9 gH16
  replace hsz : H16.size = s.heap.size + 56 := hz9
  clear hz9 hzH16
  have gH16 : BD D G (fun k9 => s.heap.size + 45 + k9) r0 H16 := by rw [← bb_at]; exact gH16
  refine dp_aast (A := (fun q => q = a ∨ s.heap.size ≤ q)) hx hb hK f1 (Or.inr (by omega)) hS 3 rfl gH16.1 rfl 4 rfl (by decide) (by decide) dX3_init_36 (fun H17 locs h9H17 hzH17 hkH17 hS => ?_)
  replace ha := ha.kept (hkH17 _ (by omega))
  replace gH4 := gH4.kept (fun k9 hk9 => hkH17 (s.heap.size + 1 + k9) (by omega))
  replace gH7 := gH7.kept (fun k9 hk9 => hkH17 (s.heap.size + 12 + k9) (by omega))
  replace gH10 := gH10.kept (fun k9 hk9 => hkH17 (s.heap.size + 23 + k9) (by omega))
  replace gH13 := gH13.kept (fun k9 hk9 => hkH17 (s.heap.size + 34 + k9) (by omega))
  replace gH16 := gH16.kept (fun k9 hk9 => hkH17 (s.heap.size + 45 + k9) (by omega))
  have f1 := h9H17
  replace hsz : H17.size = s.heap.size + 56 := hzH17.trans hsz
  clear hzH17
  refine lv_iinc (v := 5) (lv' := [(1, .int (5)), (0, .ref a)]) hx hb dX3_init_37 hl (k := 0) rfl rfl (by decide) rfl (fun ls hl => ?_)
  refine lv_goto (tgt := 15) hx hb dX3_init_40 (by decide) ?_
  refine lv_iload_n hx hb dX3_init_15 rfl (lv_at hl 0 rfl) ?_
  refine lv_aload_n hx hb dX3_init_16 rfl (lv_at hl 1 rfl) ?_
  refine dp_get hx hb hts hi3_ hown hK ha rfl 0 (by decide) hw4_ rfl dX3_init_17 ?_
  refine dp_alen hx hb hK f1 3 rfl dX3_init_20 ?_
  refine lv_icmp_ge (tgt := 43) hx hb dX3_init_21 (by decide) (fun c6 => absurd c6 (by decide)) (fun c6 => ?_)
  refine lv_aload_n hx hb dX3_init_24 rfl (lv_at hl 1 rfl) ?_
  refine dp_get hx hb hts hi3_ hown hK ha rfl 0 (by decide) hw4_ rfl dX3_init_25 ?_
  refine lv_iload_n hx hb dX3_init_28 rfl (lv_at hl 0 rfl) ?_
  refine dp_new (ci := 0) (C := RX0) (T := TX0) (N := 5) (fs := [.null, .null, .null, .int 0, .int 0]) hx hb hts hi0_ tyX0 tyX0_ok hown hw3_ hw5_ hw6_ hK hS rfl (fun j hj => by rcases (show j = 0 ∨ j = 1 ∨ j = 2 ∨ j = 3 ∨ j = 4 by omega) with rfl | rfl | rfl | rfl | rfl <;> rfl) (Nat.le_of_ble_eq_true rfl) (Nat.le_of_ble_eq_true rfl) dX3_init_29 (s.heap.size + 56) hsz (fun H18 f18 hzH18 hkH18 hS => ?_)
  replace ha := ha.kept (hkH18 _ (by omega))
  replace f1 := f1.kept (hkH18 _ (by omega))
  replace gH4 := gH4.kept (fun k9 hk9 => hkH18 (s.heap.size + 1 + k9) (by omega))
  replace gH7 := gH7.kept (fun k9 hk9 => hkH18 (s.heap.size + 12 + k9) (by omega))
  replace gH10 := gH10.kept (fun k9 hk9 => hkH18 (s.heap.size + 23 + k9) (by omega))
  replace gH13 := gH13.kept (fun k9 hk9 => hkH18 (s.heap.size + 34 + k9) (by omega))
  replace gH16 := gH16.kept (fun k9 hk9 => hkH18 (s.heap.size + 45 + k9) (by omega))
  replace hsz : H18.size = s.heap.size + 57 := hzH18
  clear hzH18
  refine lv_dup hx hb dX3_init_32 rfl ?_
  refine dp_Iv hF hK hN hO (c_X0_init l D G (s.heap.size + 56)  _ f18) (cwI 0 hts gX3_init_X0_init rfl rfl rfl hw6_ hw7_ hw8_ rfl (by decide +kernel) ⟨Nat.le_of_ble_eq_true rfl, Nat.le_of_ble_eq_true rfl⟩) hS (fun q hq => by rcases (show q = s.heap.size + 56 ∨ H18.size ≤ q from hq) with hq | hq; exact Or.inr (by omega); exact Or.inr (by omega)) [.ref (s.heap.size + 56), .int (5), .ref s.heap.size] rfl rfl hl.1 (Nat.le_of_ble_eq_true rfl) dX3_init_33 ⟨Nat.le_of_ble_eq_true rfl, Nat.le_of_ble_eq_true rfl⟩ (fun H19 locs hp hzH19 hkH19 hS => ?_)
  replace ha := ha.kept (hkH19 (a) (by omega) (by show ¬ (_ = _ ∨ _ ≤ _); omega))
  replace f1 := f1.kept (hkH19 (s.heap.size) (by omega) (by show ¬ (_ = _ ∨ _ ≤ _); omega))
  replace gH4 := gH4.kept (fun k9 hk9 => hkH19 (s.heap.size + 1 + k9) (by omega) (by show ¬ (_ = _ ∨ _ ≤ _); omega))
  replace gH7 := gH7.kept (fun k9 hk9 => hkH19 (s.heap.size + 12 + k9) (by omega) (by show ¬ (_ = _ ∨ _ ≤ _); omega))
  replace gH10 := gH10.kept (fun k9 hk9 => hkH19 (s.heap.size + 23 + k9) (by omega) (by show ¬ (_ = _ ∨ _ ≤ _); omega))
  replace gH13 := gH13.kept (fun k9 hk9 => hkH19 (s.heap.size + 34 + k9) (by omega) (by show ¬ (_ = _ ∨ _ ≤ _); omega))
  replace gH16 := gH16.kept (fun k9 hk9 => hkH19 (s.heap.size + 45 + k9) (by omega) (by show ¬ (_ = _ ∨ _ ≤ _); omega))
  obtain ⟨hz9, gH19⟩ := hp
  rw [hsz] at hz9 gH19
  replace hsz : H19.size = s.heap.size + 67 := hz9
  clear hz9 hzH19
  have gH19 : BD D G (fun k9 => s.heap.size + 56 + k9) r0 H19 := by rw [← bb_at]; exact gH19
  refine dp_aast (A := (fun q => q = a ∨ s.heap.size ≤ q)) hx hb hK f1 (Or.inr (by omega)) hS 3 rfl gH19.1 rfl 5 rfl (by decide) (by decide) dX3_init_36 (fun H20 locs h9H20 hzH20 hkH20 hS => ?_)
  replace ha := ha.kept (hkH20 _ (by omega))
  replace gH4 := gH4.kept (fun k9 hk9 => hkH20 (s.heap.size + 1 + k9) (by omega))
  replace gH7 := gH7.kept (fun k9 hk9 => hkH20 (s.heap.size + 12 + k9) (by omega))
  replace gH10 := gH10.kept (fun k9 hk9 => hkH20 (s.heap.size + 23 + k9) (by omega))
  replace gH13 := gH13.kept (fun k9 hk9 => hkH20 (s.heap.size + 34 + k9) (by omega))
  replace gH16 := gH16.kept (fun k9 hk9 => hkH20 (s.heap.size + 45 + k9) (by omega))
  replace gH19 := gH19.kept (fun k9 hk9 => hkH20 (s.heap.size + 56 + k9) (by omega))
  have f1 := h9H20
  replace hsz : H20.size = s.heap.size + 67 := hzH20.trans hsz
  clear hzH20
  refine lv_iinc (v := 6) (lv' := [(1, .int (6)), (0, .ref a)]) hx hb dX3_init_37 hl (k := 0) rfl rfl (by decide) rfl (fun ls hl => ?_)
  refine lv_goto (tgt := 15) hx hb dX3_init_40 (by decide) ?_
  refine lv_iload_n hx hb dX3_init_15 rfl (lv_at hl 0 rfl) ?_
  refine lv_aload_n hx hb dX3_init_16 rfl (lv_at hl 1 rfl) ?_
  refine dp_get hx hb hts hi3_ hown hK ha rfl 0 (by decide) hw4_ rfl dX3_init_17 ?_
  refine dp_alen hx hb hK f1 3 rfl dX3_init_20 ?_
  refine lv_icmp_ge (tgt := 43) hx hb dX3_init_21 (by decide) (fun c7 => ?_) (fun c7 => absurd (by decide) c7)
  exact W.vret hx hb hr (fun t ht hW => ⟨⟨H20, rfl, ⟨hsz, ha, at_up6 f1 rfl rfl rfl rfl rfl rfl, fun i hi => by
    match i, hi with
    | 0, _ => exact gH4.cb (fun k _ => by show s.heap.size + 1 + k = s.heap.size + 1 + 11 * 0 + k; omega)
    | 1, _ => exact gH7.cb (fun k _ => by show s.heap.size + 12 + k = s.heap.size + 1 + 11 * 1 + k; omega)
    | 2, _ => exact gH10.cb (fun k _ => by show s.heap.size + 23 + k = s.heap.size + 1 + 11 * 2 + k; omega)
    | 3, _ => exact gH13.cb (fun k _ => by show s.heap.size + 34 + k = s.heap.size + 1 + 11 * 3 + k; omega)
    | 4, _ => exact gH16.cb (fun k _ => by show s.heap.size + 45 + k = s.heap.size + 1 + 11 * 4 + k; omega)
    | 5, _ => exact gH19.cb (fun k _ => by show s.heap.size + 56 + k = s.heap.size + 1 + 11 * 5 + k; omega)⟩, ht⟩, hS.F ht⟩) hS.2.2 dX3_init_43
