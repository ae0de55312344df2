set_option maxHeartbeats 8000000 in
set_option maxRecDepth 100000 in
theorem c_X5_init (l : Launch) (D : va_G) (G : Nat → ClassId) (a : Nat) (H : Heap) (ha : va_at D vwCl (a, .inr (5, [.null, .null, .null, .int 0, .null, .null])) H) (hs1 : H.size = a + 1) : Met l yX5_init wsX5_init ({ frames := 4, cells := 103, slots := 592, locals := 83 } : Room) (va_Pc [.ref a] (CK D G H)) (QV (fun q => q = a ∨ H.size ≤ q) (fun h => h.size = H.size + 103 ∧ ∀ o, DP D G (al a o) (fun i => i) r0 r0 r0 0 (fun _ => r0) 0 (fun _ => 0) 0 h)) 103 592 ((fun q => q = a ∨ H.size ≤ q)) := by
  refine Met.ofW (cc := cX5_init) (maxL := 1) (ret := none) (by decide) rfl ?_
  intro p e s m args below meth c s₁ B0 hml hv
  obtain ⟨rfl, ⟨rfl, hK, hN⟩, hO⟩ := hv
  have hin9 : meth.name = "<init>" := (name_of_methodNamed B0.named B0.method).1
  have hx := B0.exec
  have hb := B0.bytes
  have hr := B0.returns
  have hts := atoms_spec (ws := wsX5_init) B0.pre
  have hw0_ := (hts (.methodLink RX5 1 objectInit) (List.mem_of_getElem? (i := 1) rfl))
  have hw1_ := (hts (.instanceMethod objectInit) (List.mem_of_getElem? (i := 2) rfl))
  have hw2_ := (hts (.code objectInit ⟨#[0xb1]⟩ 1 none) (List.mem_of_getElem? (i := 3) rfl))
  have hw3_ := (hts (.classLink RX5 7 RX0) (List.mem_of_getElem? (i := 4) rfl))
  have hw4_ := (hts (.instantiable RX0 5) (List.mem_of_getElem? (i := 5) rfl))
  have hw5_ := (hts (.initialized RX0) (List.mem_of_getElem? (i := 6) rfl))
  have hw6_ := (hts (.methodLink RX5 9 yX0_init) (List.mem_of_getElem? (i := 18) rfl))
  have hw7_ := (hts (.instanceMethod yX0_init) (List.mem_of_getElem? (i := 19) rfl))
  have hw8_ := (hts (.fieldLink RX5 10 "DroopBoard" "board" "LDroopBoard$Board;") (List.mem_of_getElem? (i := 7) rfl))
  have hw9_ := (hts (.fieldLink RX5 16 "DroopBoard" "trial" "LDroopBoard$Board;") (List.mem_of_getElem? (i := 8) rfl))
  have hw10_ := (hts (.fieldLink RX5 19 "DroopBoard" "snapshot" "LDroopBoard$Board;") (List.mem_of_getElem? (i := 9) rfl))
  have hw11_ := (hts (.classLink RX5 22 RX3) (List.mem_of_getElem? (i := 10) rfl))
  have hw12_ := (hts (.instantiable RX3 2) (List.mem_of_getElem? (i := 11) rfl))
  have hw13_ := (hts (.initialized RX3) (List.mem_of_getElem? (i := 12) rfl))
  have hw14_ := (hts (.methodLink RX5 24 yX3_init) (List.mem_of_getElem? (i := 43) rfl))
  have hw15_ := (hts (.instanceMethod yX3_init) (List.mem_of_getElem? (i := 44) rfl))
  have hw16_ := (hts (.fieldLink RX5 25 "DroopBoard" "history" "LDroopBoard$History;") (List.mem_of_getElem? (i := 13) rfl))
  have hw17_ := (hts (.classLink RX5 29 RX4) (List.mem_of_getElem? (i := 14) rfl))
  have hw18_ := (hts (.instantiable RX4 2) (List.mem_of_getElem? (i := 15) rfl))
  have hw19_ := (hts (.initialized RX4) (List.mem_of_getElem? (i := 16) rfl))
  have hw20_ := (hts (.instanceMethod yX4_init) (List.mem_of_getElem? (i := 50) rfl))
  have hw21_ := (hts (.fieldLink RX5 32 "DroopBoard" "text" "LDroopBoard$OrderText;") (List.mem_of_getElem? (i := 17) rfl))
  have hi0_ : ∀ w ∈ u_ws RX0 TX0 5, w ∈ wsX5_init := (dp_hin 54 rfl)
  have hi5_ : ∀ w ∈ u_ws RX5 TX5 6, w ∈ wsX5_init := (dp_hin 59 rfl)
  have hi3_ : ∀ w ∈ u_ws RX3 TX3 2, w ∈ wsX5_init := (dp_hin 65 rfl)
  have hi4_ : ∀ w ∈ u_ws RX4 TX4 2, w ∈ wsX5_init := (dp_hin 67 rfl)
  have hown : s.vm.findClass RX5 = some m.cls := findClass_of_methodNamed B0.named
  have hlocks := B0.notSynchronized
  have hF : CallFix p m c cX5_init 1 s ([.ref a] : List Value).toArray wsX5_init RX5 := ⟨hx, hb, hml, hown, hts⟩
  have hS : va_S ((fun q => q = a ∨ s.heap.size ≤ q)) s.heap s.heap [] := va_S.rf
  have hl := lv_entry ([.ref a]) (n := 1) (Nat.le_of_ble_eq_true rfl)
  rw [lg_entry_eq]
  generalize (lg_sl ([.ref a]) ++ List.replicate (1 - (lg_sl ([.ref a])).length) Slot.unset).toArray = ls at hl ⊢
  have hl : lv_has ls 1 [(0, .ref a)] := hl
  have ha0 : a < s.heap.size := ha.lt
  have hsz : s.heap.size = s.heap.size := rfl
  refine lv_aload_n hx hb dX5_init_0 rfl (lv_at hl 0 rfl) ?_
  refine W.objInit hx hb hown hw0_ hw1_ hw2_ rfl (by rw [hml]; exact hl.1) rfl dX5_init_1 (Nat.le_of_ble_eq_true rfl) (Nat.le_of_ble_eq_true rfl) ?_
  change W p l e (headSpec wsX5_init ({ frames := 4, cells := 103, slots := 592, locals := 83 } : Room)).room s m ([.ref a] : List Value).toArray below meth c s.heap _ 0 0 (MQ below (QV (fun q => q = a ∨ s.heap.size ≤ q) (fun h => h.size = s.heap.size + 103 ∧ ∀ o, DP D G (al a o) (fun i => i) r0 r0 r0 0 (fun _ => r0) 0 (fun _ => 0) 0 h)) ([.ref a] : List Value).toArray s 103 592 ((fun q => q = a ∨ s.heap.size ≤ q))) (F0 m 4 ls [])
  refine lv_aload_n hx hb dX5_init_4 rfl (lv_at hl 0 rfl) ?_
  refine dp_new (ci := 0) (C := RX0) (T := TX0) (N := 5) (fs := [.null, .null, .null, .int 0, .int 0]) hx hb hts hi0_ tyX0 tyX0_ok hown hw3_ hw4_ hw5_ hK hS rfl (fun j hj => by rcases (show j = 0 ∨ j = 1 ∨ j = 2 ∨ j = 3 ∨ j = 4 by omega) with rfl | rfl | rfl | rfl | rfl <;> rfl) (Nat.le_of_ble_eq_true rfl) (Nat.le_of_ble_eq_true rfl) dX5_init_5 s.heap.size hsz (fun H1 f1 hzH1 hkH1 hS => ?_)
  replace ha := ha.kept (hkH1 _ (by omega))
  replace hsz : H1.size = s.heap.size + 1 := hzH1
  clear hzH1
  refine lv_dup hx hb dX5_init_8 rfl ?_
  refine dp_Iv hF hK hN hO (c_X0_init l D G s.heap.size  _ f1) (cwI 0 hts gX5_init_X0_init rfl rfl rfl hw5_ hw6_ hw7_ rfl (by decide +kernel) ⟨Nat.le_of_ble_eq_true rfl, Nat.le_of_ble_eq_true rfl⟩) hS (fun q hq => by rcases (show q = s.heap.size ∨ H1.size ≤ q from hq) with hq | hq; exact Or.inr (by omega); exact Or.inr (by omega)) [.ref s.heap.size, .ref a] rfl rfl hl.1 (Nat.le_of_ble_eq_true rfl) dX5_init_9 ⟨Nat.le_of_ble_eq_true rfl, Nat.le_of_ble_eq_true rfl⟩ (fun H2 locs hp hzH2 hkH2 hS => ?_)
  replace ha := ha.kept (hkH2 (a) (by omega) (by show ¬ (_ = _ ∨ _ ≤ _); omega))
  obtain ⟨hz9, gH2⟩ := hp
  rw [hsz] at hz9 gH2
  replace hsz : H2.size = s.heap.size + 11 := hz9
  clear hz9 hzH2
  have gH2 : BD D G (fun k9 => s.heap.size + k9) r0 H2 := by rw [← bb_at]; exact gH2
  refine dp_putF (A := (fun q => q = a ∨ s.heap.size ≤ q)) (v := .ref s.heap.size) hx hb hts hi5_ tyX5 tyX5_ok nmX5 hown hK ha (Or.inl rfl) hS rfl 0 (by decide) hw8_ rfl hin9 rfl rfl rfl (Nat.le_of_ble_eq_true rfl) dX5_init_12 (fun H3 locs hH3 hzH3 hkH3 hS => ?_)
  replace gH2 := gH2.kept (fun k9 hk9 => hkH3 (s.heap.size + k9) (by omega))
  have ha := hH3
  replace hsz : H3.size = s.heap.size + 11 := hzH3.trans hsz
  clear hzH3
  refine lv_aload_n hx hb dX5_init_15 rfl (lv_at hl 0 rfl) ?_
  refine dp_new (ci := 0) (C := RX0) (T := TX0) (N := 5) (fs := [.null, .null, .null, .int 0, .int 0]) hx hb hts hi0_ tyX0 tyX0_ok hown hw3_ hw4_ hw5_ hK hS rfl (fun j hj => by rcases (show j = 0 ∨ j = 1 ∨ j = 2 ∨ j = 3 ∨ j = 4 by omega) with rfl | rfl | rfl | rfl | rfl <;> rfl) (Nat.le_of_ble_eq_true rfl) (Nat.le_of_ble_eq_true rfl) dX5_init_16 (s.heap.size + 11) hsz (fun H4 f4 hzH4 hkH4 hS => ?_)
  replace ha := ha.kept (hkH4 _ (by omega))
  replace gH2 := gH2.kept (fun k9 hk9 => hkH4 (s.heap.size + k9) (by omega))
  replace hsz : H4.size = s.heap.size + 12 := hzH4
  clear hzH4
  refine lv_dup hx hb dX5_init_19 rfl ?_
  refine dp_Iv hF hK hN hO (c_X0_init l D G (s.heap.size + 11)  _ f4) (cwI 0 hts gX5_init_X0_init rfl rfl rfl hw5_ hw6_ hw7_ rfl (by decide +kernel) ⟨Nat.le_of_ble_eq_true rfl, Nat.le_of_ble_eq_true rfl⟩) hS (fun q hq => by rcases (show q = s.heap.size + 11 ∨ H4.size ≤ q from hq) with hq | hq; exact Or.inr (by omega); exact Or.inr (by omega)) [.ref (s.heap.size + 11), .ref a] rfl rfl hl.1 (Nat.le_of_ble_eq_true rfl) dX5_init_20 ⟨Nat.le_of_ble_eq_true rfl, Nat.le_of_ble_eq_true rfl⟩ (fun H5 locs hp hzH5 hkH5 hS => ?_)
  replace ha := ha.kept (hkH5 (a) (by omega) (by show ¬ (_ = _ ∨ _ ≤ _); omega))
  replace gH2 := gH2.kept (fun k9 hk9 => hkH5 (s.heap.size + k9) (by omega) (by show ¬ (_ = _ ∨ _ ≤ _); omega))
  obtain ⟨hz9, gH5⟩ := hp
  rw [hsz] at hz9 gH5
  replace hsz : H5.size = s.heap.size + 22 := hz9
  clear hz9 hzH5
  have gH5 : BD D G (fun k9 => s.heap.size + 11 + k9) r0 H5 := by rw [← bb_at]; exact gH5
  refine dp_putF (A := (fun q => q = a ∨ s.heap.size ≤ q)) (v := .ref (s.heap.size + 11)) hx hb hts hi5_ tyX5 tyX5_ok nmX5 hown hK ha (Or.inl rfl) hS rfl 1 (by decide) hw9_ rfl hin9 rfl rfl rfl (Nat.le_of_ble_eq_true rfl) dX5_init_23 (fun H6 locs hH6 hzH6 hkH6 hS => ?_)
  replace gH2 := gH2.kept (fun k9 hk9 => hkH6 (s.heap.size + k9) (by omega))
  replace gH5 := gH5.kept (fun k9 hk9 => hkH6 (s.heap.size + 11 + k9) (by omega))
  have ha := hH6
  replace hsz : H6.size = s.heap.size + 22 := hzH6.trans hsz
  clear hzH6
  refine lv_aload_n hx hb dX5_init_26 rfl (lv_at hl 0 rfl) ?_
  refine dp_new (ci := 0) (C := RX0) (T := TX0) (N := 5) (fs := [.null, .null, .null, .int 0, .int 0]) hx hb hts hi0_ tyX0 tyX0_ok hown hw3_ hw4_ hw5_ hK hS rfl (fun j hj => by rcases (show j = 0 ∨ j = 1 ∨ j = 2 ∨ j = 3 ∨ j = 4 by omega) with rfl | rfl | rfl | rfl | rfl <;> rfl) (Nat.le_of_ble_eq_true rfl) (Nat.le_of_ble_eq_true rfl) dX5_init_27 (s.heap.size + 22) hsz (fun H7 f7 hzH7 hkH7 hS => ?_)
  replace ha := ha.kept (hkH7 _ (by omega))
  replace gH2 := gH2.kept (fun k9 hk9 => hkH7 (s.heap.size + k9) (by omega))
  replace gH5 := gH5.kept (fun k9 hk9 => hkH7 (s.heap.size + 11 + k9) (by omega))
  replace hsz : H7.size = s.heap.size + 23 := hzH7
  clear hzH7
  refine lv_dup hx hb dX5_init_30 rfl ?_
  refine dp_Iv hF hK hN hO (c_X0_init l D G (s.heap.size + 22)  _ f7) (cwI 0 hts gX5_init_X0_init rfl rfl rfl hw5_ hw6_ hw7_ rfl (by decide +kernel) ⟨Nat.le_of_ble_eq_true rfl, Nat.le_of_ble_eq_true rfl⟩) hS (fun q hq => by rcases (show q = s.heap.size + 22 ∨ H7.size ≤ q from hq) with hq | hq; exact Or.inr (by omega); exact Or.inr (by omega)) [.ref (s.heap.size + 22), .ref a] rfl rfl hl.1 (Nat.le_of_ble_eq_true rfl) dX5_init_31 ⟨Nat.le_of_ble_eq_true rfl, Nat.le_of_ble_eq_true rfl⟩ (fun H8 locs hp hzH8 hkH8 hS => ?_)
  replace ha := ha.kept (hkH8 (a) (by omega) (by show ¬ (_ = _ ∨ _ ≤ _); omega))
  replace gH2 := gH2.kept (fun k9 hk9 => hkH8 (s.heap.size + k9) (by omega) (by show ¬ (_ = _ ∨ _ ≤ _); omega))
  replace gH5 := gH5.kept (fun k9 hk9 => hkH8 (s.heap.size + 11 + k9) (by omega) (by show ¬ (_ = _ ∨ _ ≤ _); omega))
  obtain ⟨hz9, gH8⟩ := hp
  rw [hsz] at hz9 gH8
  replace hsz : H8.size = s.heap.size + 33 := hz9
  clear hz9 hzH8
  have gH8 : BD D G (fun k9 => s.heap.size + 22 + k9) r0 H8 := by rw [← bb_at]; exact gH8
  refine dp_putF (A := (fun q => q = a ∨ s.heap.size ≤ q)) (v := .ref (s.heap.size + 22)) hx hb hts hi5_ tyX5 tyX5_ok nmX5 hown hK ha (Or.inl rfl) hS rfl 2 (by decide) hw10_ rfl hin9 rfl rfl rfl (Nat.le_of_ble_eq_true rfl) dX5_init_34 (fun H9 locs hH9 hzH9 hkH9 hS => ?_)
  replace gH2 := gH2.kept (fun k9 hk9 => hkH9 (s.heap.size + k9) (by omega))
  replace gH5 := gH5.kept (fun k9 hk9 => hkH9 (s.heap.size + 11 + k9) (by omega))
  replace gH8 := gH8.kept (fun k9 hk9 => hkH9 (s.heap.size + 22 + k9) (by omega))
  have ha := hH9
  replace hsz : H9.size = s.heap.size + 33 := hzH9.trans hsz
  clear hzH9
  refine lv_aload_n hx hb dX5_init_37 rfl (lv_at hl 0 rfl) ?_
  refine dp_new (ci := 3) (C := RX3) (T := TX3) (N := 2) (fs := [.null, .int 0]) hx hb hts hi3_ tyX3 tyX3_ok hown hw11_ hw12_ hw13_ hK hS rfl (fun j hj => by rcases (show j = 0 ∨ j = 1 by omega) with rfl | rfl <;> rfl) (Nat.le_of_ble_eq_true rfl) (Nat.le_of_ble_eq_true rfl) dX5_init_38 (s.heap.size + 33) hsz (fun H10 f10 hzH10 hkH10 hS => ?_)
  replace ha := ha.kept (hkH10 _ (by omega))
  replace gH2 := gH2.kept (fun k9 hk9 => hkH10 (s.heap.size + k9) (by omega))
  replace gH5 := gH5.kept (fun k9 hk9 => hkH10 (s.heap.size + 11 + k9) (by omega))
  replace gH8 := gH8.kept (fun k9 hk9 => hkH10 (s.heap.size + 22 + k9) (by omega))
  replace hsz : H10.size = s.heap.size + 34 := hzH10
  clear hzH10
  refine lv_dup hx hb dX5_init_41 rfl ?_
  refine dp_Iv hF hK hN hO (c_X3_init l D G (s.heap.size + 33)  _ f10) (cwI 0 hts gX5_init_X3_init rfl rfl rfl hw13_ hw14_ hw15_ rfl (by decide +kernel) ⟨Nat.le_of_ble_eq_true rfl, Nat.le_of_ble_eq_true rfl⟩) hS (fun q hq => by rcases (show q = s.heap.size + 33 ∨ H10.size ≤ q from hq) with hq | hq; exact Or.inr (by omega); exact Or.inr (by omega)) [.ref (s.heap.size + 33), .ref a] rfl rfl hl.1 (Nat.le_of_ble_eq_true rfl) dX5_init_42 ⟨Nat.le_of_ble_eq_true rfl, Nat.le_of_ble_eq_true rfl⟩ (fun H11 locs hp hzH11 hkH11 hS => ?_)
  replace ha := ha.kept (hkH11 (a) (by omega) (by show ¬ (_ = _ ∨ _ ≤ _); omega))
  replace gH2 := gH2.kept (fun k9 hk9 => hkH11 (s.heap.size + k9) (by omega) (by show ¬ (_ = _ ∨ _ ≤ _); omega))
  replace gH5 := gH5.kept (fun k9 hk9 => hkH11 (s.heap.size + 11 + k9) (by omega) (by show ¬ (_ = _ ∨ _ ≤ _); omega))
  replace gH8 := gH8.kept (fun k9 hk9 => hkH11 (s.heap.size + 22 + k9) (by omega) (by show ¬ (_ = _ ∨ _ ≤ _); omega))
  obtain ⟨hz9, g0H11, g1H11, g2H11⟩ := hp
  rw [hsz] at hz9 g0H11 g1H11 g2H11
  replace hsz : H11.size = s.heap.size + 101 := hz9
  clear hz9 hzH11
  have gb0H11 : BD D G (fun k9 => s.heap.size + 35 + k9) r0 H11 := (g2H11 0 (by omega)).cb (fun k _ => by show s.heap.size + 34 + 1 + 11 * 0 + k = s.heap.size + 35 + k; omega)
  have gb1H11 : BD D G (fun k9 => s.heap.size + 46 + k9) r0 H11 := (g2H11 1 (by omega)).cb (fun k _ => by show s.heap.size + 34 + 1 + 11 * 1 + k = s.heap.size + 46 + k; omega)
  have gb2H11 : BD D G (fun k9 => s.heap.size + 57 + k9) r0 H11 := (g2H11 2 (by omega)).cb (fun k _ => by show s.heap.size + 34 + 1 + 11 * 2 + k = s.heap.size + 57 + k; omega)
  have gb3H11 : BD D G (fun k9 => s.heap.size + 68 + k9) r0 H11 := (g2H11 3 (by omega)).cb (fun k _ => by show s.heap.size + 34 + 1 + 11 * 3 + k = s.heap.size + 68 + k; omega)
  have gb4H11 : BD D G (fun k9 => s.heap.size + 79 + k9) r0 H11 := (g2H11 4 (by omega)).cb (fun k _ => by show s.heap.size + 34 + 1 + 11 * 4 + k = s.heap.size + 79 + k; omega)
  have gb5H11 : BD D G (fun k9 => s.heap.size + 90 + k9) r0 H11 := (g2H11 5 (by omega)).cb (fun k _ => by show s.heap.size + 34 + 1 + 11 * 5 + k = s.heap.size + 90 + k; omega)
  refine dp_putF (A := (fun q => q = a ∨ s.heap.size ≤ q)) (v := .ref (s.heap.size + 33)) hx hb hts hi5_ tyX5 tyX5_ok nmX5 hown hK ha (Or.inl rfl) hS rfl 4 (by decide) hw16_ rfl hin9 rfl rfl rfl (Nat.le_of_ble_eq_true rfl) dX5_init_45 (fun H12 locs hH12 hzH12 hkH12 hS => ?_)
  replace gH2 := gH2.kept (fun k9 hk9 => hkH12 (s.heap.size + k9) (by omega))
  replace gH5 := gH5.kept (fun k9 hk9 => hkH12 (s.heap.size + 11 + k9) (by omega))
  replace gH8 := gH8.kept (fun k9 hk9 => hkH12 (s.heap.size + 22 + k9) (by omega))
  replace g0H11 := g0H11.kept (hkH12 _ (by omega))
  replace g1H11 := g1H11.kept (hkH12 _ (by omega))
  replace gb0H11 := gb0H11.kept (fun k9 hk9 => hkH12 (s.heap.size + 35 + k9) (by omega))
  replace gb1H11 := gb1H11.kept (fun k9 hk9 => hkH12 (s.heap.size + 46 + k9) (by omega))
  replace gb2H11 := gb2H11.kept (fun k9 hk9 => hkH12 (s.heap.size + 57 + k9) (by omega))
  replace gb3H11 := gb3H11.kept (fun k9 hk9 => hkH12 (s.heap.size + 68 + k9) (by omega))
  replace gb4H11 := gb4H11.kept (fun k9 hk9 => hkH12 (s.heap.size + 79 + k9) (by omega))
  replace gb5H11 := gb5H11.kept (fun k9 hk9 => hkH12 (s.heap.size + 90 + k9) (by omega))
  have ha := hH12
  replace hsz : H12.size = s.heap.size + 101 := hzH12.trans hsz
  clear hzH12
  refine lv_aload_n hx hb dX5_init_48 rfl (lv_at hl 0 rfl) ?_
  refine dp_new (ci := 4) (C := RX4) (T := TX4) (N := 2) (fs := [.null, .int 0]) hx hb hts hi4_ tyX4 tyX4_ok hown hw17_ hw18_ hw19_ hK hS rfl (fun j hj => by rcases (show j = 0 ∨ j = 1 by omega) with rfl | rfl <;> rfl) (Nat.le_of_ble_eq_true rfl) (Nat.le_of_ble_eq_true rfl) dX5_init_49 (s.heap.size + 101) hsz (fun H13 f13 hzH13 hkH13 hS => ?_)
  replace ha := ha.kept (hkH13 _ (by omega))
  replace gH2 := gH2.kept (fun k9 hk9 => hkH13 (s.heap.size + k9) (by omega))
  replace gH5 := gH5.kept (fun k9 hk9 => hkH13 (s.heap.size + 11 + k9) (by omega))
  replace gH8 := gH8.kept (fun k9 hk9 => hkH13 (s.heap.size + 22 + k9) (by omega))
  replace g0H11 := g0H11.kept (hkH13 _ (by omega))
  replace g1H11 := g1H11.kept (hkH13 _ (by omega))
  replace gb0H11 := gb0H11.kept (fun k9 hk9 => hkH13 (s.heap.size + 35 + k9) (by omega))
  replace gb1H11 := gb1H11.kept (fun k9 hk9 => hkH13 (s.heap.size + 46 + k9) (by omega))
  replace gb2H11 := gb2H11.kept (fun k9 hk9 => hkH13 (s.heap.size + 57 + k9) (by omega))
  replace gb3H11 := gb3H11.kept (fun k9 hk9 => hkH13 (s.heap.size + 68 + k9) (by omega))
  replace gb4H11 := gb4H11.kept (fun k9 hk9 => hkH13 (s.heap.size + 79 + k9) (by omega))
  replace gb5H11 := gb5H11.kept (fun k9 hk9 => hkH13 (s.heap.size + 90 + k9) (by omega))
  replace hsz : H13.size = s.heap.size + 102 := hzH13
  clear hzH13
  refine lv_dup hx hb dX5_init_52 rfl ?_
  refine dp_INv hF hK hN hO (c_X4_init l D G (s.heap.size + 101)  _ f13) ⟨va_cnB 0 hts gX5_init_X4_init_n31 rfl rfl rfl hN.2.2 hw19_ (by decide +kernel) ⟨Nat.le_of_ble_eq_true rfl, Nat.le_of_ble_eq_true rfl⟩, rfl, hw20_⟩ hS (fun q hq => by rcases (show q = s.heap.size + 101 ∨ H13.size ≤ q from hq) with hq | hq; exact Or.inr (by omega); exact Or.inr (by omega)) [.ref (s.heap.size + 101), .ref a] rfl rfl hl.1 (Nat.le_of_ble_eq_true rfl) dX5_init_53 ⟨Nat.le_of_ble_eq_true rfl, Nat.le_of_ble_eq_true rfl⟩ (fun H14 locs hp hzH14 hkH14 hS => ?_)
  replace ha := ha.kept (hkH14 (a) (by omega) (by show ¬ (_ = _ ∨ _ ≤ _); omega))
  replace gH2 := gH2.kept (fun k9 hk9 => hkH14 (s.heap.size + k9) (by omega) (by show ¬ (_ = _ ∨ _ ≤ _); omega))
  replace gH5 := gH5.kept (fun k9 hk9 => hkH14 (s.heap.size + 11 + k9) (by omega) (by show ¬ (_ = _ ∨ _ ≤ _); omega))
  replace gH8 := gH8.kept (fun k9 hk9 => hkH14 (s.heap.size + 22 + k9) (by omega) (by show ¬ (_ = _ ∨ _ ≤ _); omega))
  replace g0H11 := g0H11.kept (hkH14 (s.heap.size + 33) (by omega) (by show ¬ (_ = _ ∨ _ ≤ _); omega))
  replace g1H11 := g1H11.kept (hkH14 (s.heap.size + 34) (by omega) (by show ¬ (_ = _ ∨ _ ≤ _); omega))
  replace gb0H11 := gb0H11.kept (fun k9 hk9 => hkH14 (s.heap.size + 35 + k9) (by omega) (by show ¬ (_ = _ ∨ _ ≤ _); omega))
  replace gb1H11 := gb1H11.kept (fun k9 hk9 => hkH14 (s.heap.size + 46 + k9) (by omega) (by show ¬ (_ = _ ∨ _ ≤ _); omega))
  replace gb2H11 := gb2H11.kept (fun k9 hk9 => hkH14 (s.heap.size + 57 + k9) (by omega) (by show ¬ (_ = _ ∨ _ ≤ _); omega))
  replace gb3H11 := gb3H11.kept (fun k9 hk9 => hkH14 (s.heap.size + 68 + k9) (by omega) (by show ¬ (_ = _ ∨ _ ≤ _); omega))
  replace gb4H11 := gb4H11.kept (fun k9 hk9 => hkH14 (s.heap.size + 79 + k9) (by omega) (by show ¬ (_ = _ ∨ _ ≤ _); omega))
  replace gb5H11 := gb5H11.kept (fun k9 hk9 => hkH14 (s.heap.size + 90 + k9) (by omega) (by show ¬ (_ = _ ∨ _ ≤ _); omega))
  obtain ⟨hz9, g0H14, g1H14⟩ := hp
  rw [hsz] at hz9 g0H14 g1H14
  replace hsz : H14.size = s.heap.size + 103 := hz9
  clear hz9 hzH14
  refine dp_putF (A := (fun q => q = a ∨ s.heap.size ≤ q)) (v := .ref (s.heap.size + 101)) hx hb hts hi5_ tyX5 tyX5_ok nmX5 hown hK ha (Or.inl rfl) hS rfl 5 (by decide) hw21_ rfl hin9 rfl rfl rfl (Nat.le_of_ble_eq_true rfl) dX5_init_56 (fun H15 locs hH15 hzH15 hkH15 hS => ?_)
  replace gH2 := gH2.kept (fun k9 hk9 => hkH15 (s.heap.size + k9) (by omega))
  replace gH5 := gH5.kept (fun k9 hk9 => hkH15 (s.heap.size + 11 + k9) (by omega))
  replace gH8 := gH8.kept (fun k9 hk9 => hkH15 (s.heap.size + 22 + k9) (by omega))
  replace g0H11 := g0H11.kept (hkH15 _ (by omega))
  replace g1H11 := g1H11.kept (hkH15 _ (by omega))
  replace gb0H11 := gb0H11.kept (fun k9 hk9 => hkH15 (s.heap.size + 35 + k9) (by omega))
  replace gb1H11 := gb1H11.kept (fun k9 hk9 => hkH15 (s.heap.size + 46 + k9) (by omega))
  replace gb2H11 := gb2H11.kept (fun k9 hk9 => hkH15 (s.heap.size + 57 + k9) (by omega))
  replace gb3H11 := gb3H11.kept (fun k9 hk9 => hkH15 (s.heap.size + 68 + k9) (by omega))
  replace gb4H11 := gb4H11.kept (fun k9 hk9 => hkH15 (s.heap.size + 79 + k9) (by omega))
  replace gb5H11 := gb5H11.kept (fun k9 hk9 => hkH15 (s.heap.size + 90 + k9) (by omega))
  replace g0H14 := g0H14.kept (hkH15 _ (by omega))
  replace g1H14 := g1H14.kept (hkH15 _ (by omega))
  have ha := hH15
  replace hsz : H15.size = s.heap.size + 103 := hzH15.trans hsz
  clear hzH15
  have hA1 : s.heap.size = a + 1 := hs1
  exact W.vret hx hb hr (fun t ht hW => ⟨⟨H15, rfl, ⟨hsz, fun o => DP.mk0 (by have h9 := ha; rw [hA1] at h9; exact h9) (gH2.cb (fun k _ => by show s.heap.size + k = a + 1 + k; omega)) (gH5.cb (fun k _ => by show s.heap.size + 11 + k = a + 12 + k; omega)) (gH8.cb (fun k _ => by show s.heap.size + 22 + k = a + 23 + k; omega)) (by have h9 := g0H11; rw [hA1] at h9; exact h9) (by have h9 := g1H11; rw [hA1] at h9; exact h9) (fun i hi => by
    match i, hi with
    | 0, _ => exact gb0H11.cb (fun k _ => by show s.heap.size + 35 + k = a + 36 + 11 * 0 + k; omega)
    | 1, _ => exact gb1H11.cb (fun k _ => by show s.heap.size + 46 + k = a + 36 + 11 * 1 + k; omega)
    | 2, _ => exact gb2H11.cb (fun k _ => by show s.heap.size + 57 + k = a + 36 + 11 * 2 + k; omega)
    | 3, _ => exact gb3H11.cb (fun k _ => by show s.heap.size + 68 + k = a + 36 + 11 * 3 + k; omega)
    | 4, _ => exact gb4H11.cb (fun k _ => by show s.heap.size + 79 + k = a + 36 + 11 * 4 + k; omega)
    | 5, _ => exact gb5H11.cb (fun k _ => by show s.heap.size + 90 + k = a + 36 + 11 * 5 + k; omega)) (by have h9 := g0H14; rw [hA1] at h9; exact h9) (by have h9 := g1H14; rw [hA1] at h9; exact h9)⟩, ht⟩, hS.F ht⟩) hS.2.2 dX5_init_59
