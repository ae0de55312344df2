set_option maxHeartbeats 8000000 in
set_option maxRecDepth 100000 in
theorem c_X6_init (l : Launch) (D : va_G) (G : Nat → ClassId) (a : Nat) (H : Heap) (ha : va_at D vwCl (a, .inr (6, [.null, .null, .int 0, .null, .int 0, .null, .int 0, .null, .int 0, .null, .int 0, .int 0, .int 0, .null, .null, .null, .long 0])) H) : Met l yX6_init wsX6_init ({ frames := 1, cells := 9, slots := 585, locals := 23 } : Room) (va_Pc [.ref a] (CK D G H)) (QV (fun q => q = a ∨ H.size ≤ q) (fun h => H.size + 9 ≤ h.size ∧ MO D G (bb a H.size) r0 (fun _ => 0) (fun _ => 0) (fun _ => 0) (fun _ => 0) (fun _ => 0) (fun _ => 0) (fun _ => 0) (fun _ => 0) 0 0 0 0 0 0 0 0 h)) 9 585 ((fun q => q = a ∨ H.size ≤ q)) := by
  refine Met.ofW (cc := cX6_init) (maxL := 2) (ret := none) (by decide) rfl ?_
  intro p e s m args below meth c s₁ B0 hml hv
  obtain ⟨rfl, ⟨rfl, hK, hN⟩, hO⟩ := hv
  have hin9 : meth.name = "<init>" := (name_of_methodNamed B0.named B0.method).1
  have hx := B0.exec
  have hb := B0.bytes
  have hr := B0.returns
  have hts := atoms_spec (ws := wsX6_init) B0.pre
  have hw0_ := (hts (.methodLink RX6 1 objectInit) (List.mem_of_getElem? (i := 1) rfl))
  have hw1_ := (hts (.instanceMethod objectInit) (List.mem_of_getElem? (i := 2) rfl))
  have hw2_ := (hts (.code objectInit ⟨#[0xb1]⟩ 1 none) (List.mem_of_getElem? (i := 3) rfl))
  have hw3_ := (hts (.arrayClass .int) (List.mem_of_getElem? (i := 4) rfl))
  have hw4_ := (hts (.fieldLink RX6 7 "DroopBoardModel" "row" "[I") (List.mem_of_getElem? (i := 5) rfl))
  have hw5_ := (hts (.fieldLink RX6 13 "DroopBoardModel" "saved" "[I") (List.mem_of_getElem? (i := 6) rfl))
  have hw6_ := (hts (.fieldLink RX6 16 "DroopBoardModel" "snapshot" "[I") (List.mem_of_getElem? (i := 7) rfl))
  have hw7_ := (hts (.fieldLink RX6 19 "DroopBoardModel" "aside" "[I") (List.mem_of_getElem? (i := 8) rfl))
  have hw8_ := (hts (.fieldLink RX6 22 "DroopBoardModel" "powers" "[I") (List.mem_of_getElem? (i := 9) rfl))
  have hw9_ := (hts (.fieldLink RX6 25 "DroopBoardModel" "buffer" "[I") (List.mem_of_getElem? (i := 10) rfl))
  have hw10_ := (hts (.fieldLink RX6 28 "DroopBoardModel" "letter" "[I") (List.mem_of_getElem? (i := 11) rfl))
  have hw11_ := (hts (.fieldLink RX6 31 "DroopBoardModel" "first" "[I") (List.mem_of_getElem? (i := 12) rfl))
  have hw12_ := (hts (.fieldLink RX6 34 "DroopBoardModel" "second" "[I") (List.mem_of_getElem? (i := 13) rfl))
  have hi6_ : ∀ w ∈ u_ws RX6 TX6 17, w ∈ wsX6_init := (dp_hin 19 rfl)
  have hown : s.vm.findClass RX6 = some m.cls := findClass_of_methodNamed B0.named
  have hlocks := B0.notSynchronized
  have hF : CallFix p m c cX6_init 2 s ([.ref a] : List Value).toArray wsX6_init RX6 := ⟨hx, hb, hml, hown, hts⟩
  have hS : va_S ((fun q => q = a ∨ s.heap.size ≤ q)) s.heap s.heap [] := va_S.rf
  have hl := lv_entry ([.ref a]) (n := 2) (Nat.le_of_ble_eq_true rfl)
  rw [lg_entry_eq]
  generalize (lg_sl ([.ref a]) ++ List.replicate (2 - (lg_sl ([.ref a])).length) Slot.unset).toArray = ls at hl ⊢
  have hl : lv_has ls 2 [(0, .ref a)] := hl
  have ha0 : a < s.heap.size := ha.lt
  have hsz : s.heap.size = s.heap.size := rfl
  refine lv_aload_n hx hb dX6_init_0 rfl (lv_at hl 0 rfl) ?_
  refine W.objInit hx hb hown hw0_ hw1_ hw2_ rfl (by rw [hml]; exact hl.1) rfl dX6_init_1 (Nat.le_of_ble_eq_true rfl) (Nat.le_of_ble_eq_true rfl) ?_
  change W p l e (headSpec wsX6_init ({ frames := 1, cells := 9, slots := 585, locals := 23 } : Room)).room s m ([.ref a] : List Value).toArray below meth c s.heap _ 0 0 (MQ below (QV (fun q => q = a ∨ s.heap.size ≤ q) (fun h => s.heap.size + 9 ≤ h.size ∧ MO D G (bb a s.heap.size) r0 (fun _ => 0) (fun _ => 0) (fun _ => 0) (fun _ => 0) (fun _ => 0) (fun _ => 0) (fun _ => 0) (fun _ => 0) 0 0 0 0 0 0 0 0 h)) ([.ref a] : List Value).toArray s 9 585 ((fun q => q = a ∨ s.heap.size ≤ q))) (F0 m 4 ls [])
  refine lv_aload_n hx hb dX6_init_4 rfl (lv_at hl 0 rfl) ?_
  refine lv_bipush (v := 50) hx hb dX6_init_5 (by decide) ?_
  refine dp_newi hx hb hw3_ hK 0 rfl hS 50 rfl (by omega) (Nat.le_of_ble_eq_true rfl) (Nat.le_of_ble_eq_true rfl) dX6_init_7 s.heap.size hsz (fun H1 f1 hzH1 hkH1 hS => ?_)
  replace ha := ha.kept (hkH1 _ (by omega))
  replace hsz : H1.size = s.heap.size + 1 := hzH1
  clear hzH1
  refine dp_putF (A := (fun q => q = a ∨ s.heap.size ≤ q)) (v := .ref s.heap.size) hx hb hts hi6_ tyX6 tyX6_ok nmX6 hown hK ha (Or.inl rfl) hS rfl 0 (by decide) hw4_ rfl hin9 rfl rfl rfl (Nat.le_of_ble_eq_true rfl) dX6_init_9 (fun H2 locs hH2 hzH2 hkH2 hS => ?_)
  replace f1 := f1.kept (hkH2 _ (by omega))
  have ha := hH2
  replace hsz : H2.size = s.heap.size + 1 := hzH2.trans hsz
  clear hzH2
  refine lv_aload_n hx hb dX6_init_12 rfl (lv_at hl 0 rfl) ?_
  refine lv_sipush (v := 300) hx hb dX6_init_13 (by decide) ?_
  refine dp_newi hx hb hw3_ hK 0 rfl hS 300 rfl (by omega) (Nat.le_of_ble_eq_true rfl) (Nat.le_of_ble_eq_true rfl) dX6_init_16 (s.heap.size + 1) hsz (fun H3 f3 hzH3 hkH3 hS => ?_)
  replace ha := ha.kept (hkH3 _ (by omega))
  replace f1 := f1.kept (hkH3 _ (by omega))
  replace hsz : H3.size = s.heap.size + 2 := hzH3
  clear hzH3
  refine dp_putF (A := (fun q => q = a ∨ s.heap.size ≤ q)) (v := .ref (s.heap.size + 1)) hx hb hts hi6_ tyX6 tyX6_ok nmX6 hown hK ha (Or.inl rfl) hS rfl 1 (by decide) hw5_ rfl hin9 rfl rfl rfl (Nat.le_of_ble_eq_true rfl) dX6_init_18 (fun H4 locs hH4 hzH4 hkH4 hS => ?_)
  replace f1 := f1.kept (hkH4 _ (by omega))
  replace f3 := f3.kept (hkH4 _ (by omega))
  have ha := hH4
  replace hsz : H4.size = s.heap.size + 2 := hzH4.trans hsz
  clear hzH4
  refine lv_aload_n hx hb dX6_init_21 rfl (lv_at hl 0 rfl) ?_
  refine lv_bipush (v := 50) hx hb dX6_init_22 (by decide) ?_
  refine dp_newi hx hb hw3_ hK 0 rfl hS 50 rfl (by omega) (Nat.le_of_ble_eq_true rfl) (Nat.le_of_ble_eq_true rfl) dX6_init_24 (s.heap.size + 2) hsz (fun H5 f5 hzH5 hkH5 hS => ?_)
  replace ha := ha.kept (hkH5 _ (by omega))
  replace f1 := f1.kept (hkH5 _ (by omega))
  replace f3 := f3.kept (hkH5 _ (by omega))
  replace hsz : H5.size = s.heap.size + 3 := hzH5
  clear hzH5
  refine dp_putF (A := (fun q => q = a ∨ s.heap.size ≤ q)) (v := .ref (s.heap.size + 2)) hx hb hts hi6_ tyX6 tyX6_ok nmX6 hown hK ha (Or.inl rfl) hS rfl 3 (by decide) hw6_ rfl hin9 rfl rfl rfl (Nat.le_of_ble_eq_true rfl) dX6_init_26 (fun H6 locs hH6 hzH6 hkH6 hS => ?_)
  replace f1 := f1.kept (hkH6 _ (by omega))
  replace f3 := f3.kept (hkH6 _ (by omega))
  replace f5 := f5.kept (hkH6 _ (by omega))
  have ha := hH6
  replace hsz : H6.size = s.heap.size + 3 := hzH6.trans hsz
  clear hzH6
  refine lv_aload_n hx hb dX6_init_29 rfl (lv_at hl 0 rfl) ?_
  refine lv_bipush (v := 50) hx hb dX6_init_30 (by decide) ?_
  refine dp_newi hx hb hw3_ hK 0 rfl hS 50 rfl (by omega) (Nat.le_of_ble_eq_true rfl) (Nat.le_of_ble_eq_true rfl) dX6_init_32 (s.heap.size + 3) hsz (fun H7 f7 hzH7 hkH7 hS => ?_)
  replace ha := ha.kept (hkH7 _ (by omega))
  replace f1 := f1.kept (hkH7 _ (by omega))
  replace f3 := f3.kept (hkH7 _ (by omega))
  replace f5 := f5.kept (hkH7 _ (by omega))
  replace hsz : H7.size = s.heap.size + 4 := hzH7
  clear hzH7
  refine dp_putF (A := (fun q => q = a ∨ s.heap.size ≤ q)) (v := .ref (s.heap.size + 3)) hx hb hts hi6_ tyX6 tyX6_ok nmX6 hown hK ha (Or.inl rfl) hS rfl 5 (by decide) hw7_ rfl hin9 rfl rfl rfl (Nat.le_of_ble_eq_true rfl) dX6_init_34 (fun H8 locs hH8 hzH8 hkH8 hS => ?_)
  replace f1 := f1.kept (hkH8 _ (by omega))
  replace f3 := f3.kept (hkH8 _ (by omega))
  replace f5 := f5.kept (hkH8 _ (by omega))
  replace f7 := f7.kept (hkH8 _ (by omega))
  have ha := hH8
  replace hsz : H8.size = s.heap.size + 4 := hzH8.trans hsz
  clear hzH8
  refine lv_aload_n hx hb dX6_init_37 rfl (lv_at hl 0 rfl) ?_
  refine lv_iconst (v := 3) hx hb dX6_init_38 (by decide) ?_
  refine dp_newi hx hb hw3_ hK 0 rfl hS 3 rfl (by omega) (Nat.le_of_ble_eq_true rfl) (Nat.le_of_ble_eq_true rfl) dX6_init_39 (s.heap.size + 4) hsz (fun H9 f9 hzH9 hkH9 hS => ?_)
  replace ha := ha.kept (hkH9 _ (by omega))
  replace f1 := f1.kept (hkH9 _ (by omega))
  replace f3 := f3.kept (hkH9 _ (by omega))
  replace f5 := f5.kept (hkH9 _ (by omega))
  replace f7 := f7.kept (hkH9 _ (by omega))
  replace hsz : H9.size = s.heap.size + 5 := hzH9
  clear hzH9
  refine dp_putF (A := (fun q => q = a ∨ s.heap.size ≤ q)) (v := .ref (s.heap.size + 4)) hx hb hts hi6_ tyX6 tyX6_ok nmX6 hown hK ha (Or.inl rfl) hS rfl 7 (by decide) hw8_ rfl hin9 rfl rfl rfl (Nat.le_of_ble_eq_true rfl) dX6_init_41 (fun H10 locs hH10 hzH10 hkH10 hS => ?_)
  replace f1 := f1.kept (hkH10 _ (by omega))
  replace f3 := f3.kept (hkH10 _ (by omega))
  replace f5 := f5.kept (hkH10 _ (by omega))
  replace f7 := f7.kept (hkH10 _ (by omega))
  replace f9 := f9.kept (hkH10 _ (by omega))
  have ha := hH10
  replace hsz : H10.size = s.heap.size + 5 := hzH10.trans hsz
  clear hzH10
  refine lv_aload_n hx hb dX6_init_44 rfl (lv_at hl 0 rfl) ?_
  refine lv_bipush (v := 60) hx hb dX6_init_45 (by decide) ?_
  refine dp_newi hx hb hw3_ hK 0 rfl hS 60 rfl (by omega) (Nat.le_of_ble_eq_true rfl) (Nat.le_of_ble_eq_true rfl) dX6_init_47 (s.heap.size + 5) hsz (fun H11 f11 hzH11 hkH11 hS => ?_)
  replace ha := ha.kept (hkH11 _ (by omega))
  replace f1 := f1.kept (hkH11 _ (by omega))
  replace f3 := f3.kept (hkH11 _ (by omega))
  replace f5 := f5.kept (hkH11 _ (by omega))
  replace f7 := f7.kept (hkH11 _ (by omega))
  replace f9 := f9.kept (hkH11 _ (by omega))
  replace hsz : H11.size = s.heap.size + 6 := hzH11
  clear hzH11
  refine dp_putF (A := (fun q => q = a ∨ s.heap.size ≤ q)) (v := .ref (s.heap.size + 5)) hx hb hts hi6_ tyX6 tyX6_ok nmX6 hown hK ha (Or.inl rfl) hS rfl 9 (by decide) hw9_ rfl hin9 rfl rfl rfl (Nat.le_of_ble_eq_true rfl) dX6_init_49 (fun H12 locs hH12 hzH12 hkH12 hS => ?_)
  replace f1 := f1.kept (hkH12 _ (by omega))
  replace f3 := f3.kept (hkH12 _ (by omega))
  replace f5 := f5.kept (hkH12 _ (by omega))
  replace f7 := f7.kept (hkH12 _ (by omega))
  replace f9 := f9.kept (hkH12 _ (by omega))
  replace f11 := f11.kept (hkH12 _ (by omega))
  have ha := hH12
  replace hsz : H12.size = s.heap.size + 6 := hzH12.trans hsz
  clear hzH12
  refine lv_aload_n hx hb dX6_init_52 rfl (lv_at hl 0 rfl) ?_
  refine lv_bipush (v := 24) hx hb dX6_init_53 (by decide) ?_
  refine dp_newi hx hb hw3_ hK 0 rfl hS 24 rfl (by omega) (Nat.le_of_ble_eq_true rfl) (Nat.le_of_ble_eq_true rfl) dX6_init_55 (s.heap.size + 6) hsz (fun H13 f13 hzH13 hkH13 hS => ?_)
  replace ha := ha.kept (hkH13 _ (by omega))
  replace f1 := f1.kept (hkH13 _ (by omega))
  replace f3 := f3.kept (hkH13 _ (by omega))
  replace f5 := f5.kept (hkH13 _ (by omega))
  replace f7 := f7.kept (hkH13 _ (by omega))
  replace f9 := f9.kept (hkH13 _ (by omega))
  replace f11 := f11.kept (hkH13 _ (by omega))
  replace hsz : H13.size = s.heap.size + 7 := hzH13
  clear hzH13
  refine dp_putF (A := (fun q => q = a ∨ s.heap.size ≤ q)) (v := .ref (s.heap.size + 6)) hx hb hts hi6_ tyX6 tyX6_ok nmX6 hown hK ha (Or.inl rfl) hS rfl 13 (by decide) hw10_ rfl hin9 rfl rfl rfl (Nat.le_of_ble_eq_true rfl) dX6_init_57 (fun H14 locs hH14 hzH14 hkH14 hS => ?_)
  replace f1 := f1.kept (hkH14 _ (by omega))
  replace f3 := f3.kept (hkH14 _ (by omega))
  replace f5 := f5.kept (hkH14 _ (by omega))
  replace f7 := f7.kept (hkH14 _ (by omega))
  replace f9 := f9.kept (hkH14 _ (by omega))
  replace f11 := f11.kept (hkH14 _ (by omega))
  replace f13 := f13.kept (hkH14 _ (by omega))
  have ha := hH14
  replace hsz : H14.size = s.heap.size + 7 := hzH14.trans hsz
  clear hzH14
  refine lv_aload_n hx hb dX6_init_60 rfl (lv_at hl 0 rfl) ?_
  refine lv_bipush (v := 24) hx hb dX6_init_61 (by decide) ?_
  refine dp_newi hx hb hw3_ hK 0 rfl hS 24 rfl (by omega) (Nat.le_of_ble_eq_true rfl) (Nat.le_of_ble_eq_true rfl) dX6_init_63 (s.heap.size + 7) hsz (fun H15 f15 hzH15 hkH15 hS => ?_)
  replace ha := ha.kept (hkH15 _ (by omega))
  replace f1 := f1.kept (hkH15 _ (by omega))
  replace f3 := f3.kept (hkH15 _ (by omega))
  replace f5 := f5.kept (hkH15 _ (by omega))
  replace f7 := f7.kept (hkH15 _ (by omega))
  replace f9 := f9.kept (hkH15 _ (by omega))
  replace f11 := f11.kept (hkH15 _ (by omega))
  replace f13 := f13.kept (hkH15 _ (by omega))
  replace hsz : H15.size = s.heap.size + 8 := hzH15
  clear hzH15
  refine dp_putF (A := (fun q => q = a ∨ s.heap.size ≤ q)) (v := .ref (s.heap.size + 7)) hx hb hts hi6_ tyX6 tyX6_ok nmX6 hown hK ha (Or.inl rfl) hS rfl 14 (by decide) hw11_ rfl hin9 rfl rfl rfl (Nat.le_of_ble_eq_true rfl) dX6_init_65 (fun H16 locs hH16 hzH16 hkH16 hS => ?_)
  replace f1 := f1.kept (hkH16 _ (by omega))
  replace f3 := f3.kept (hkH16 _ (by omega))
  replace f5 := f5.kept (hkH16 _ (by omega))
  replace f7 := f7.kept (hkH16 _ (by omega))
  replace f9 := f9.kept (hkH16 _ (by omega))
  replace f11 := f11.kept (hkH16 _ (by omega))
  replace f13 := f13.kept (hkH16 _ (by omega))
  replace f15 := f15.kept (hkH16 _ (by omega))
  have ha := hH16
  replace hsz : H16.size = s.heap.size + 8 := hzH16.trans hsz
  clear hzH16
  refine lv_aload_n hx hb dX6_init_68 rfl (lv_at hl 0 rfl) ?_
  refine lv_bipush (v := 24) hx hb dX6_init_69 (by decide) ?_
  refine dp_newi hx hb hw3_ hK 0 rfl hS 24 rfl (by omega) (Nat.le_of_ble_eq_true rfl) (Nat.le_of_ble_eq_true rfl) dX6_init_71 (s.heap.size + 8) hsz (fun H17 f17 hzH17 hkH17 hS => ?_)
  replace ha := ha.kept (hkH17 _ (by omega))
  replace f1 := f1.kept (hkH17 _ (by omega))
  replace f3 := f3.kept (hkH17 _ (by omega))
  replace f5 := f5.kept (hkH17 _ (by omega))
  replace f7 := f7.kept (hkH17 _ (by omega))
  replace f9 := f9.kept (hkH17 _ (by omega))
  replace f11 := f11.kept (hkH17 _ (by omega))
  replace f13 := f13.kept (hkH17 _ (by omega))
  replace f15 := f15.kept (hkH17 _ (by omega))
  replace hsz : H17.size = s.heap.size + 9 := hzH17
  clear hzH17
  refine dp_putF (A := (fun q => q = a ∨ s.heap.size ≤ q)) (v := .ref (s.heap.size + 8)) hx hb hts hi6_ tyX6 tyX6_ok nmX6 hown hK ha (Or.inl rfl) hS rfl 15 (by decide) hw12_ rfl hin9 rfl rfl rfl (Nat.le_of_ble_eq_true rfl) dX6_init_73 (fun H18 locs hH18 hzH18 hkH18 hS => ?_)
  replace f1 := f1.kept (hkH18 _ (by omega))
  replace f3 := f3.kept (hkH18 _ (by omega))
  replace f5 := f5.kept (hkH18 _ (by omega))
  replace f7 := f7.kept (hkH18 _ (by omega))
  replace f9 := f9.kept (hkH18 _ (by omega))
  replace f11 := f11.kept (hkH18 _ (by omega))
  replace f13 := f13.kept (hkH18 _ (by omega))
  replace f15 := f15.kept (hkH18 _ (by omega))
  replace f17 := f17.kept (hkH18 _ (by omega))
  have ha := hH18
  replace hsz : H18.size = s.heap.size + 9 := hzH18.trans hsz
  clear hzH18
  have hμ : inj 10 (bb a s.heap.size) := bb_inj ha0
  have hM : MO D G (bb a s.heap.size) (fun _ => 0) (fun _ => 0) (fun _ => 0) (fun _ => 0) (fun _ => 0) (fun _ => 0) (fun _ => 0) (fun _ => 0) (fun _ => 0) 0 0 0 0 0 0 0 0 H18 := ⟨ha, f1, f3, f5, f7, f9, f11, f13, f15, f17⟩
  have hsz : s.heap.size + 9 ≤ H18.size := Nat.le_of_eq hsz.symm
  refine lv_aload_n hx hb dX6_init_76 rfl (lv_at hl 0 rfl) ?_
  refine dp_get hx hb hts hi6_ hown hK hM.1 rfl 0 (by decide) hw4_ rfl dX6_init_77 ?_
  refine lv_iconst (v := 0) hx hb dX6_init_80 (by decide) ?_
  refine lv_iconst (v := 3) hx hb dX6_init_81 (by decide) ?_
  refine dp_iast (A := (fun q => q = a ∨ s.heap.size ≤ q)) hx hb hK hM.2.1 (Or.inr (Nat.le_refl s.heap.size)) hS 0 rfl 0 rfl (by decide) (by decide) dX6_init_82 (fun H19 locs hH19 hzH19 hkH19 hS => ?_)
  have hM := hM.a1 (X' := upd ((fun _ => 0)) 0 3) hμ hH19 hkH19
  have hsz : s.heap.size + 9 ≤ H19.size := by rw [hzH19]; exact hsz
  refine lv_aload_n hx hb dX6_init_83 rfl (lv_at hl 0 rfl) ?_
  refine dp_get hx hb hts hi6_ hown hK hM.1 rfl 0 (by decide) hw4_ rfl dX6_init_84 ?_
  refine lv_iconst (v := 1) hx hb dX6_init_87 (by decide) ?_
  refine lv_iconst (v := 2) hx hb dX6_init_88 (by decide) ?_
  refine dp_iast (A := (fun q => q = a ∨ s.heap.size ≤ q)) hx hb hK hM.2.1 (Or.inr (Nat.le_refl s.heap.size)) hS 0 rfl 1 rfl (by decide) (by decide) dX6_init_89 (fun H20 locs hH20 hzH20 hkH20 hS => ?_)
  have hM := hM.a1 (X' := upd (upd ((fun _ => 0)) 0 3) 1 2) hμ hH20 hkH20
  have hsz : s.heap.size + 9 ≤ H20.size := by rw [hzH20]; exact hsz
  refine lv_aload_n hx hb dX6_init_90 rfl (lv_at hl 0 rfl) ?_
  refine dp_get hx hb hts hi6_ hown hK hM.1 rfl 0 (by decide) hw4_ rfl dX6_init_91 ?_
  refine lv_iconst (v := 2) hx hb dX6_init_94 (by decide) ?_
  refine lv_bipush (v := 10) hx hb dX6_init_95 (by decide) ?_
  refine dp_iast (A := (fun q => q = a ∨ s.heap.size ≤ q)) hx hb hK hM.2.1 (Or.inr (Nat.le_refl s.heap.size)) hS 0 rfl 2 rfl (by decide) (by decide) dX6_init_97 (fun H21 locs hH21 hzH21 hkH21 hS => ?_)
  have hM := hM.a1 (X' := upd (upd (upd ((fun _ => 0)) 0 3) 1 2) 2 10) hμ hH21 hkH21
  have hsz : s.heap.size + 9 ≤ H21.size := by rw [hzH21]; exact hsz
  refine lv_aload_n hx hb dX6_init_98 rfl (lv_at hl 0 rfl) ?_
  refine dp_get hx hb hts hi6_ hown hK hM.1 rfl 0 (by decide) hw4_ rfl dX6_init_99 ?_
  refine lv_iconst (v := 3) hx hb dX6_init_102 (by decide) ?_
  refine lv_bipush (v := 30) hx hb dX6_init_103 (by decide) ?_
  refine dp_iast (A := (fun q => q = a ∨ s.heap.size ≤ q)) hx hb hK hM.2.1 (Or.inr (Nat.le_refl s.heap.size)) hS 0 rfl 3 rfl (by decide) (by decide) dX6_init_105 (fun H22 locs hH22 hzH22 hkH22 hS => ?_)
  have hM := hM.a1 (X' := upd (upd (upd (upd ((fun _ => 0)) 0 3) 1 2) 2 10) 3 30) hμ hH22 hkH22
  have hsz : s.heap.size + 9 ≤ H22.size := by rw [hzH22]; exact hsz
  refine lv_iconst (v := 0) hx hb dX6_init_106 (by decide) ?_
  refine lv_istore_n (lv' := [(1, .int 0), (0, .ref a)]) hx hb dX6_init_107 rfl hl (by decide) rfl (fun ls hl => ?_)
  refine lv_iload_n hx hb dX6_init_108 rfl (lv_at hl 0 rfl) ?_
  refine lv_iconst (v := 3) hx hb dX6_init_109 (by decide) ?_
  refine lv_icmp_ge (tgt := 151) hx hb dX6_init_110 (by decide) (fun c1 => absurd c1 (by decide)) (fun c1 => ?_)
  refine lv_aload_n hx hb dX6_init_113 rfl (lv_at hl 1 rfl) ?_
  refine lv_iload_n hx hb dX6_init_114 rfl (lv_at hl 0 rfl) ?_
  refine lv_iconst (v := 0) hx hb dX6_init_115 (by decide) ?_
  refine lv_sipush (v := 200) hx hb dX6_init_116 (by decide) ?_
  refine lv_bipush (v := 100) hx hb dX6_init_119 (by decide) ?_
  refine lv_iload_n hx hb dX6_init_121 rfl (lv_at hl 0 rfl) ?_
  refine lv_imul hx hb dX6_init_122 ?_
  refine lv_iadd hx hb dX6_init_123 ?_
  refine dp_Vv hF hK hN (c_X6_put l D G (bb a s.heap.size) (upd (upd (upd (upd ((fun _ => 0)) 0 3) 1 2) 2 10) 3 30) ((fun _ => 0)) ((fun _ => 0)) ((fun _ => 0)) ((fun _ => 0)) ((fun _ => 0)) ((fun _ => 0)) ((fun _ => 0)) ((fun _ => 0)) 0 0 0 0 0 0 0 0 0 0 8 (200 + (100 * 0)) _ hμ hM (by decide) (by decide) rfl) (cwV 3 hts gX6_init_X6_put rfl rfl rfl (by decide +kernel) ⟨Nat.le_of_ble_eq_true rfl, Nat.le_of_ble_eq_true rfl⟩) (dp_recv hK hM.1 rfl) hS (fun q hq => a6_n hq) [] rfl rfl hl.1 (Nat.le_of_ble_eq_true rfl) dX6_init_124 ⟨Nat.le_of_ble_eq_true rfl, Nat.le_of_ble_eq_true rfl⟩ (fun H23 locs hp hzH23 hkH23 hS => ?_)
  have hM := hp
  have hsz := Nat.le_trans hsz hzH23
  refine lv_aload_n hx hb dX6_init_127 rfl (lv_at hl 1 rfl) ?_
  refine lv_iload_n hx hb dX6_init_128 rfl (lv_at hl 0 rfl) ?_
  refine lv_iconst (v := 1) hx hb dX6_init_129 (by decide) ?_
  refine lv_sipush (v := 200) hx hb dX6_init_130 (by decide) ?_
  refine dp_Vv hF hK hN (c_X6_put l D G (bb a s.heap.size) (upd (upd (upd (upd (upd ((fun _ => 0)) 0 3) 1 2) 2 10) 3 30) (8 + 10 * 0) (200 + (100 * 0))) ((fun _ => 0)) ((fun _ => 0)) ((fun _ => 0)) ((fun _ => 0)) ((fun _ => 0)) ((fun _ => 0)) ((fun _ => 0)) ((fun _ => 0)) 0 0 0 0 0 0 0 0 0 1 9 200 _ hμ hM (by decide) (by decide) rfl) (cwV 3 hts gX6_init_X6_put rfl rfl rfl (by decide +kernel) ⟨Nat.le_of_ble_eq_true rfl, Nat.le_of_ble_eq_true rfl⟩) (dp_recv hK hM.1 rfl) hS (fun q hq => a6_n hq) [] rfl rfl hl.1 (Nat.le_of_ble_eq_true rfl) dX6_init_133 ⟨Nat.le_of_ble_eq_true rfl, Nat.le_of_ble_eq_true rfl⟩ (fun H24 locs hp hzH24 hkH24 hS => ?_)
  have hM := hp
  have hsz := Nat.le_trans hsz hzH24
  refine lv_aload_n hx hb dX6_init_136 rfl (lv_at hl 1 rfl) ?_
  refine lv_iload_n hx hb dX6_init_137 rfl (lv_at hl 0 rfl) ?_
  refine lv_iconst (v := 2) hx hb dX6_init_138 (by decide) ?_
  refine lv_sipush (v := 5000) hx hb dX6_init_139 (by decide) ?_
  refine dp_Vv hF hK hN (c_X6_put l D G (bb a s.heap.size) (upd (upd (upd (upd (upd (upd ((fun _ => 0)) 0 3) 1 2) 2 10) 3 30) (8 + 10 * 0) (200 + (100 * 0))) (9 + 10 * 0) 200) ((fun _ => 0)) ((fun _ => 0)) ((fun _ => 0)) ((fun _ => 0)) ((fun _ => 0)) ((fun _ => 0)) ((fun _ => 0)) ((fun _ => 0)) 0 0 0 0 0 0 0 0 0 2 10 5000 _ hμ hM (by decide) (by decide) rfl) (cwV 3 hts gX6_init_X6_put rfl rfl rfl (by decide +kernel) ⟨Nat.le_of_ble_eq_true rfl, Nat.le_of_ble_eq_true rfl⟩) (dp_recv hK hM.1 rfl) hS (fun q hq => a6_n hq) [] rfl rfl hl.1 (Nat.le_of_ble_eq_true rfl) dX6_init_142 ⟨Nat.le_of_ble_eq_true rfl, Nat.le_of_ble_eq_true rfl⟩ (fun H25 locs hp hzH25 hkH25 hS => ?_)
  have hM := hp
  have hsz := Nat.le_trans hsz hzH25
  refine lv_iinc (v := 1) (lv' := [(1, .int (1)), (0, .ref a)]) hx hb dX6_init_145 hl (k := 0) rfl rfl (by decide) rfl (fun ls hl => ?_)
  refine lv_goto (tgt := 108) hx hb dX6_init_148 (by decide) ?_
  refine lv_iload_n hx hb dX6_init_108 rfl (lv_at hl 0 rfl) ?_
  refine lv_iconst (v := 3) hx hb dX6_init_109 (by decide) ?_
  refine lv_icmp_ge (tgt := 151) hx hb dX6_init_110 (by decide) (fun c2 => absurd c2 (by decide)) (fun c2 => ?_)
  refine lv_aload_n hx hb dX6_init_113 rfl (lv_at hl 1 rfl) ?_
  refine lv_iload_n hx hb dX6_init_114 rfl (lv_at hl 0 rfl) ?_
  refine lv_iconst (v := 0) hx hb dX6_init_115 (by decide) ?_
  refine lv_sipush (v := 200) hx hb dX6_init_116 (by decide) ?_
  refine lv_bipush (v := 100) hx hb dX6_init_119 (by decide) ?_
  refine lv_iload_n hx hb dX6_init_121 rfl (lv_at hl 0 rfl) ?_
  refine lv_imul hx hb dX6_init_122 ?_
  refine lv_iadd hx hb dX6_init_123 ?_
  refine dp_Vv hF hK hN (c_X6_put l D G (bb a s.heap.size) (upd (upd (upd (upd (upd (upd (upd ((fun _ => 0)) 0 3) 1 2) 2 10) 3 30) (8 + 10 * 0) (200 + (100 * 0))) (9 + 10 * 0) 200) (10 + 10 * 0) 5000) ((fun _ => 0)) ((fun _ => 0)) ((fun _ => 0)) ((fun _ => 0)) ((fun _ => 0)) ((fun _ => 0)) ((fun _ => 0)) ((fun _ => 0)) 0 0 0 0 0 0 0 0 1 0 8 (200 + (100 * 1)) _ hμ hM (by decide) (by decide) rfl) (cwV 3 hts gX6_init_X6_put rfl rfl rfl (by decide +kernel) ⟨Nat.le_of_ble_eq_true rfl, Nat.le_of_ble_eq_true rfl⟩) (dp_recv hK hM.1 rfl) hS (fun q hq => a6_n hq) [] rfl rfl hl.1 (Nat.le_of_ble_eq_true rfl) dX6_init_124 ⟨Nat.le_of_ble_eq_true rfl, Nat.le_of_ble_eq_true rfl⟩ (fun H26 locs hp hzH26 hkH26 hS => ?_)
  have hM := hp
  have hsz := Nat.le_trans hsz hzH26
  refine lv_aload_n hx hb dX6_init_127 rfl (lv_at hl 1 rfl) ?_
  refine lv_iload_n hx hb dX6_init_128 rfl (lv_at hl 0 rfl) ?_
  refine lv_iconst (v := 1) hx hb dX6_init_129 (by decide) ?_
  refine lv_sipush (v := 200) hx hb dX6_init_130 (by decide) ?_
  refine dp_Vv hF hK hN (c_X6_put l D G (bb a s.heap.size) (upd (upd (upd (upd (upd (upd (upd (upd ((fun _ => 0)) 0 3) 1 2) 2 10) 3 30) (8 + 10 * 0) (200 + (100 * 0))) (9 + 10 * 0) 200) (10 + 10 * 0) 5000) (8 + 10 * 1) (200 + (100 * 1))) ((fun _ => 0)) ((fun _ => 0)) ((fun _ => 0)) ((fun _ => 0)) ((fun _ => 0)) ((fun _ => 0)) ((fun _ => 0)) ((fun _ => 0)) 0 0 0 0 0 0 0 0 1 1 9 200 _ hμ hM (by decide) (by decide) rfl) (cwV 3 hts gX6_init_X6_put rfl rfl rfl (by decide +kernel) ⟨Nat.le_of_ble_eq_true rfl, Nat.le_of_ble_eq_true rfl⟩) (dp_recv hK hM.1 rfl) hS (fun q hq => a6_n hq) [] rfl rfl hl.1 (Nat.le_of_ble_eq_true rfl) dX6_init_133 ⟨Nat.le_of_ble_eq_true rfl, Nat.le_of_ble_eq_true rfl⟩ (fun H27 locs hp hzH27 hkH27 hS => ?_)
  have hM := hp
  have hsz := Nat.le_trans hsz hzH27
  refine lv_aload_n hx hb dX6_init_136 rfl (lv_at hl 1 rfl) ?_
  refine lv_iload_n hx hb dX6_init_137 rfl (lv_at hl 0 rfl) ?_
  refine lv_iconst (v := 2) hx hb dX6_init_138 (by decide) ?_
  refine lv_sipush (v := 5000) hx hb dX6_init_139 (by decide) ?_
  refine dp_Vv hF hK hN (c_X6_put l D G (bb a s.heap.size) (upd (upd (upd (upd (upd (upd (upd (upd (upd ((fun _ => 0)) 0 3) 1 2) 2 10) 3 30) (8 + 10 * 0) (200 + (100 * 0))) (9 + 10 * 0) 200) (10 + 10 * 0) 5000) (8 + 10 * 1) (200 + (100 * 1))) (9 + 10 * 1) 200) ((fun _ => 0)) ((fun _ => 0)) ((fun _ => 0)) ((fun _ => 0)) ((fun _ => 0)) ((fun _ => 0)) ((fun _ => 0)) ((fun _ => 0)) 0 0 0 0 0 0 0 0 1 2 10 5000 _ hμ hM (by decide) (by decide) rfl) (cwV 3 hts gX6_init_X6_put rfl rfl rfl (by decide +kernel) ⟨Nat.le_of_ble_eq_true rfl, Nat.le_of_ble_eq_true rfl⟩) (dp_recv hK hM.1 rfl) hS (fun q hq => a6_n hq) [] rfl rfl hl.1 (Nat.le_of_ble_eq_true rfl) dX6_init_142 ⟨Nat.le_of_ble_eq_true rfl, Nat.le_of_ble_eq_true rfl⟩ (fun H28 locs hp hzH28 hkH28 hS => ?_)
  have hM := hp
  have hsz := Nat.le_trans hsz hzH28
  refine lv_iinc (v := 2) (lv' := [(1, .int (2)), (0, .ref a)]) hx hb dX6_init_145 hl (k := 0) rfl rfl (by decide) rfl (fun ls hl => ?_)
  refine lv_goto (tgt := 108) hx hb dX6_init_148 (by decide) ?_
  refine lv_iload_n hx hb dX6_init_108 rfl (lv_at hl 0 rfl) ?_
  refine lv_iconst (v := 3) hx hb dX6_init_109 (by decide) ?_
  refine lv_icmp_ge (tgt := 151) hx hb dX6_init_110 (by decide) (fun c3 => absurd c3 (by decide)) (fun c3 => ?_)
  refine lv_aload_n hx hb dX6_init_113 rfl (lv_at hl 1 rfl) ?_
  refine lv_iload_n hx hb dX6_init_114 rfl (lv_at hl 0 rfl) ?_
  refine lv_iconst (v := 0) hx hb dX6_init_115 (by decide) ?_
  refine lv_sipush (v := 200) hx hb dX6_init_116 (by decide) ?_
  refine lv_bipush (v := 100) hx hb dX6_init_119 (by decide) ?_
  refine lv_iload_n hx hb dX6_init_121 rfl (lv_at hl 0 rfl) ?_
  refine lv_imul hx hb dX6_init_122 ?_
  refine lv_iadd hx hb dX6_init_123 ?_
  refine dp_Vv hF hK hN (c_X6_put l D G (bb a s.heap.size) (upd (upd (upd (upd (upd (upd (upd (upd (upd (upd ((fun _ => 0)) 0 3) 1 2) 2 10) 3 30) (8 + 10 * 0) (200 + (100 * 0))) (9 + 10 * 0) 200) (10 + 10 * 0) 5000) (8 + 10 * 1) (200 + (100 * 1))) (9 + 10 * 1) 200) (10 + 10 * 1) 5000) ((fun _ => 0)) ((fun _ => 0)) ((fun _ => 0)) ((fun _ => 0)) ((fun _ => 0)) ((fun _ => 0)) ((fun _ => 0)) ((fun _ => 0)) 0 0 0 0 0 0 0 0 2 0 8 (200 + (100 * 2)) _ hμ hM (by decide) (by decide) rfl) (cwV 3 hts gX6_init_X6_put rfl rfl rfl (by decide +kernel) ⟨Nat.le_of_ble_eq_true rfl, Nat.le_of_ble_eq_true rfl⟩) (dp_recv hK hM.1 rfl) hS (fun q hq => a6_n hq) [] rfl rfl hl.1 (Nat.le_of_ble_eq_true rfl) dX6_init_124 ⟨Nat.le_of_ble_eq_true rfl, Nat.le_of_ble_eq_true rfl⟩ (fun H29 locs hp hzH29 hkH29 hS => ?_)
  have hM := hp
  have hsz := Nat.le_trans hsz hzH29
  refine lv_aload_n hx hb dX6_init_127 rfl (lv_at hl 1 rfl) ?_
  refine lv_iload_n hx hb dX6_init_128 rfl (lv_at hl 0 rfl) ?_
  refine lv_iconst (v := 1) hx hb dX6_init_129 (by decide) ?_
  refine lv_sipush (v := 200) hx hb dX6_init_130 (by decide) ?_
  refine dp_Vv hF hK hN (c_X6_put l D G (bb a s.heap.size) (upd (upd (upd (upd (upd (upd (upd (upd (upd (upd (upd ((fun _ => 0)) 0 3) 1 2) 2 10) 3 30) (8 + 10 * 0) (200 + (100 * 0))) (9 + 10 * 0) 200) (10 + 10 * 0) 5000) (8 + 10 * 1) (200 + (100 * 1))) (9 + 10 * 1) 200) (10 + 10 * 1) 5000) (8 + 10 * 2) (200 + (100 * 2))) ((fun _ => 0)) ((fun _ => 0)) ((fun _ => 0)) ((fun _ => 0)) ((fun _ => 0)) ((fun _ => 0)) ((fun _ => 0)) ((fun _ => 0)) 0 0 0 0 0 0 0 0 2 1 9 200 _ hμ hM (by decide) (by decide) rfl) (cwV 3 hts gX6_init_X6_put rfl rfl rfl (by decide +kernel) ⟨Nat.le_of_ble_eq_true rfl, Nat.le_of_ble_eq_true rfl⟩) (dp_recv hK hM.1 rfl) hS (fun q hq => a6_n hq) [] rfl rfl hl.1 (Nat.le_of_ble_eq_true rfl) dX6_init_133 ⟨Nat.le_of_ble_eq_true rfl, Nat.le_of_ble_eq_true rfl⟩ (fun H30 locs hp hzH30 hkH30 hS => ?_)
  have hM := hp
  have hsz := Nat.le_trans hsz hzH30
  refine lv_aload_n hx hb dX6_init_136 rfl (lv_at hl 1 rfl) ?_
  refine lv_iload_n hx hb dX6_init_137 rfl (lv_at hl 0 rfl) ?_
  refine lv_iconst (v := 2) hx hb dX6_init_138 (by decide) ?_
  refine lv_sipush (v := 5000) hx hb dX6_init_139 (by decide) ?_
  refine dp_Vv hF hK hN (c_X6_put l D G (bb a s.heap.size) (upd (upd (upd (upd (upd (upd (upd (upd (upd (upd (upd (upd ((fun _ => 0)) 0 3) 1 2) 2 10) 3 30) (8 + 10 * 0) (200 + (100 * 0))) (9 + 10 * 0) 200) (10 + 10 * 0) 5000) (8 + 10 * 1) (200 + (100 * 1))) (9 + 10 * 1) 200) (10 + 10 * 1) 5000) (8 + 10 * 2) (200 + (100 * 2))) (9 + 10 * 2) 200) ((fun _ => 0)) ((fun _ => 0)) ((fun _ => 0)) ((fun _ => 0)) ((fun _ => 0)) ((fun _ => 0)) ((fun _ => 0)) ((fun _ => 0)) 0 0 0 0 0 0 0 0 2 2 10 5000 _ hμ hM (by decide) (by decide) rfl) (cwV 3 hts gX6_init_X6_put rfl rfl rfl (by decide +kernel) ⟨Nat.le_of_ble_eq_true rfl, Nat.le_of_ble_eq_true rfl⟩) (dp_recv hK hM.1 rfl) hS (fun q hq => a6_n hq) [] rfl rfl hl.1 (Nat.le_of_ble_eq_true rfl) dX6_init_142 ⟨Nat.le_of_ble_eq_true rfl, Nat.le_of_ble_eq_true rfl⟩ (fun H31 locs hp hzH31 hkH31 hS => ?_)
  have hM := hp
  have hsz := Nat.le_trans hsz hzH31
  refine lv_iinc (v := 3) (lv' := [(1, .int (3)), (0, .ref a)]) hx hb dX6_init_145 hl (k := 0) rfl rfl (by decide) rfl (fun ls hl => ?_)
  refine lv_goto (tgt := 108) hx hb dX6_init_148 (by decide) ?_
  refine lv_iload_n hx hb dX6_init_108 rfl (lv_at hl 0 rfl) ?_
  refine lv_iconst (v := 3) hx hb dX6_init_109 (by decide) ?_
  refine lv_icmp_ge (tgt := 151) hx hb dX6_init_110 (by decide) (fun c4 => ?_) (fun c4 => absurd (by decide) c4)
  refine lv_iconst (v := 0) hx hb dX6_init_151 (by decide) ?_
  refine lv_istore_n (lv' := [(1, .int 0), (0, .ref a)]) hx hb dX6_init_152 rfl hl (by decide) rfl (fun ls hl => ?_)
  refine lv_iload_n hx hb dX6_init_153 rfl (lv_at hl 0 rfl) ?_
  refine lv_iconst (v := 4) hx hb dX6_init_154 (by decide) ?_
  refine lv_icmp_ge (tgt := 178) hx hb dX6_init_155 (by decide) (fun c5 => absurd c5 (by decide)) (fun c5 => ?_)
  refine lv_aload_n hx hb dX6_init_158 rfl (lv_at hl 1 rfl) ?_
  refine dp_get hx hb hts hi6_ hown hK hM.1 rfl 0 (by decide) hw4_ rfl dX6_init_159 ?_
  refine lv_bipush (v := 38) hx hb dX6_init_162 (by decide) ?_
  refine lv_iconst (v := 3) hx hb dX6_init_164 (by decide) ?_
  refine lv_iload_n hx hb dX6_init_165 rfl (lv_at hl 0 rfl) ?_
  refine lv_imul hx hb dX6_init_166 ?_
  refine lv_iadd hx hb dX6_init_167 ?_
  refine lv_iconst (v := 1) hx hb dX6_init_168 (by decide) ?_
  refine lv_iadd hx hb dX6_init_169 ?_
  refine lv_iconst (v := 1) hx hb dX6_init_170 (by decide) ?_
  refine dp_iast (A := (fun q => q = a ∨ s.heap.size ≤ q)) hx hb hK hM.2.1 (Or.inr (Nat.le_refl s.heap.size)) hS 0 rfl 39 (by decide) (by decide) (by decide) dX6_init_171 (fun H32 locs hH32 hzH32 hkH32 hS => ?_)
  have hM := hM.a1 (X' := upd (upd (upd (upd (upd (upd (upd (upd (upd (upd (upd (upd (upd (upd ((fun _ => 0)) 0 3) 1 2) 2 10) 3 30) (8 + 10 * 0) (200 + (100 * 0))) (9 + 10 * 0) 200) (10 + 10 * 0) 5000) (8 + 10 * 1) (200 + (100 * 1))) (9 + 10 * 1) 200) (10 + 10 * 1) 5000) (8 + 10 * 2) (200 + (100 * 2))) (9 + 10 * 2) 200) (10 + 10 * 2) 5000) 39 1) hμ hH32 hkH32
  have hsz : s.heap.size + 9 ≤ H32.size := by rw [hzH32]; exact hsz
  refine lv_iinc (v := 1) (lv' := [(1, .int (1)), (0, .ref a)]) hx hb dX6_init_172 hl (k := 0) rfl rfl (by decide) rfl (fun ls hl => ?_)
  refine lv_goto (tgt := 153) hx hb dX6_init_175 (by decide) ?_
  refine lv_iload_n hx hb dX6_init_153 rfl (lv_at hl 0 rfl) ?_
  refine lv_iconst (v := 4) hx hb dX6_init_154 (by decide) ?_
  refine lv_icmp_ge (tgt := 178) hx hb dX6_init_155 (by decide) (fun c6 => absurd c6 (by decide)) (fun c6 => ?_)
  refine lv_aload_n hx hb dX6_init_158 rfl (lv_at hl 1 rfl) ?_
  refine dp_get hx hb hts hi6_ hown hK hM.1 rfl 0 (by decide) hw4_ rfl dX6_init_159 ?_
  refine lv_bipush (v := 38) hx hb dX6_init_162 (by decide) ?_
  refine lv_iconst (v := 3) hx hb dX6_init_164 (by decide) ?_
  refine lv_iload_n hx hb dX6_init_165 rfl (lv_at hl 0 rfl) ?_
  refine lv_imul hx hb dX6_init_166 ?_
  refine lv_iadd hx hb dX6_init_167 ?_
  refine lv_iconst (v := 1) hx hb dX6_init_168 (by decide) ?_
  refine lv_iadd hx hb dX6_init_169 ?_
  refine lv_iconst (v := 1) hx hb dX6_init_170 (by decide) ?_
  refine dp_iast (A := (fun q => q = a ∨ s.heap.size ≤ q)) hx hb hK hM.2.1 (Or.inr (Nat.le_refl s.heap.size)) hS 0 rfl 42 (by decide) (by decide) (by decide) dX6_init_171 (fun H33 locs hH33 hzH33 hkH33 hS => ?_)
  have hM := hM.a1 (X' := upd (upd (upd (upd (upd (upd (upd (upd (upd (upd (upd (upd (upd (upd (upd ((fun _ => 0)) 0 3) 1 2) 2 10) 3 30) (8 + 10 * 0) (200 + (100 * 0))) (9 + 10 * 0) 200) (10 + 10 * 0) 5000) (8 + 10 * 1) (200 + (100 * 1))) (9 + 10 * 1) 200) (10 + 10 * 1) 5000) (8 + 10 * 2) (200 + (100 * 2))) (9 + 10 * 2) 200) (10 + 10 * 2) 5000) 39 1) 42 1) hμ hH33 hkH33
  have hsz : s.heap.size + 9 ≤ H33.size := by rw [hzH33]; exact hsz
  refine lv_iinc (v := 2) (lv' := [(1, .int (2)), (0, .ref a)]) hx hb dX6_init_172 hl (k := 0) rfl rfl (by decide) rfl (fun ls hl => ?_)
  refine lv_goto (tgt := 153) hx hb dX6_init_175 (by decide) ?_
  refine lv_iload_n hx hb dX6_init_153 rfl (lv_at hl 0 rfl) ?_
  refine lv_iconst (v := 4) hx hb dX6_init_154 (by decide) ?_
  refine lv_icmp_ge (tgt := 178) hx hb dX6_init_155 (by decide) (fun c7 => absurd c7 (by decide)) (fun c7 => ?_)
  refine lv_aload_n hx hb dX6_init_158 rfl (lv_at hl 1 rfl) ?_
  refine dp_get hx hb hts hi6_ hown hK hM.1 rfl 0 (by decide) hw4_ rfl dX6_init_159 ?_
  refine lv_bipush (v := 38) hx hb dX6_init_162 (by decide) ?_
  refine lv_iconst (v := 3) hx hb dX6_init_164 (by decide) ?_
  refine lv_iload_n hx hb dX6_init_165 rfl (lv_at hl 0 rfl) ?_
  refine lv_imul hx hb dX6_init_166 ?_
  refine lv_iadd hx hb dX6_init_167 ?_
  refine lv_iconst (v := 1) hx hb dX6_init_168 (by decide) ?_
  refine lv_iadd hx hb dX6_init_169 ?_
  refine lv_iconst (v := 1) hx hb dX6_init_170 (by decide) ?_
  refine dp_iast (A := (fun q => q = a ∨ s.heap.size ≤ q)) hx hb hK hM.2.1 (Or.inr (Nat.le_refl s.heap.size)) hS 0 rfl 45 (by decide) (by decide) (by decide) dX6_init_171 (fun H34 locs hH34 hzH34 hkH34 hS => ?_)
  have hM := hM.a1 (X' := upd (upd (upd (upd (upd (upd (upd (upd (upd (upd (upd (upd (upd (upd (upd (upd ((fun _ => 0)) 0 3) 1 2) 2 10) 3 30) (8 + 10 * 0) (200 + (100 * 0))) (9 + 10 * 0) 200) (10 + 10 * 0) 5000) (8 + 10 * 1) (200 + (100 * 1))) (9 + 10 * 1) 200) (10 + 10 * 1) 5000) (8 + 10 * 2) (200 + (100 * 2))) (9 + 10 * 2) 200) (10 + 10 * 2) 5000) 39 1) 42 1) 45 1) hμ hH34 hkH34
  have hsz : s.heap.size + 9 ≤ H34.size := by rw [hzH34]; exact hsz
  refine lv_iinc (v := 3) (lv' := [(1, .int (3)), (0, .ref a)]) hx hb dX6_init_172 hl (k := 0) rfl rfl (by decide) rfl (fun ls hl => ?_)
  refine lv_goto (tgt := 153) hx hb dX6_init_175 (by decide) ?_
  refine lv_iload_n hx hb dX6_init_153 rfl (lv_at hl 0 rfl) ?_
  refine lv_iconst (v := 4) hx hb dX6_init_154 (by decide) ?_
  refine lv_icmp_ge (tgt := 178) hx hb dX6_init_155 (by decide) (fun c8 => absurd c8 (by decide)) (fun c8 => ?_)
  refine lv_aload_n hx hb dX6_init_158 rfl (lv_at hl 1 rfl) ?_
  refine dp_get hx hb hts hi6_ hown hK hM.1 rfl 0 (by decide) hw4_ rfl dX6_init_159 ?_
  refine lv_bipush (v := 38) hx hb dX6_init_162 (by decide) ?_
  refine lv_iconst (v := 3) hx hb dX6_init_164 (by decide) ?_
  refine lv_iload_n hx hb dX6_init_165 rfl (lv_at hl 0 rfl) ?_
  refine lv_imul hx hb dX6_init_166 ?_
  refine lv_iadd hx hb dX6_init_167 ?_
  refine lv_iconst (v := 1) hx hb dX6_init_168 (by decide) ?_
  refine lv_iadd hx hb dX6_init_169 ?_
  refine lv_iconst (v := 1) hx hb dX6_init_170 (by decide) ?_
  refine dp_iast (A := (fun q => q = a ∨ s.heap.size ≤ q)) hx hb hK hM.2.1 (Or.inr (Nat.le_refl s.heap.size)) hS 0 rfl 48 (by decide) (by decide) (by decide) dX6_init_171 (fun H35 locs hH35 hzH35 hkH35 hS => ?_)
  have hM := hM.a1 (X' := upd (upd (upd (upd (upd (upd (upd (upd (upd (upd (upd (upd (upd (upd (upd (upd (upd ((fun _ => 0)) 0 3) 1 2) 2 10) 3 30) (8 + 10 * 0) (200 + (100 * 0))) (9 + 10 * 0) 200) (10 + 10 * 0) 5000) (8 + 10 * 1) (200 + (100 * 1))) (9 + 10 * 1) 200) (10 + 10 * 1) 5000) (8 + 10 * 2) (200 + (100 * 2))) (9 + 10 * 2) 200) (10 + 10 * 2) 5000) 39 1) 42 1) 45 1) 48 1) hμ hH35 hkH35
  have hsz : s.heap.size + 9 ≤ H35.size := by rw [hzH35]; exact hsz
  refine lv_iinc (v := 4) (lv' := [(1, .int (4)), (0, .ref a)]) hx hb dX6_init_172 hl (k := 0) rfl rfl (by decide) rfl (fun ls hl => ?_)
  refine lv_goto (tgt := 153) hx hb dX6_init_175 (by decide) ?_
  refine lv_iload_n hx hb dX6_init_153 rfl (lv_at hl 0 rfl) ?_
  refine lv_iconst (v := 4) hx hb dX6_init_154 (by decide) ?_
  refine lv_icmp_ge (tgt := 178) hx hb dX6_init_155 (by decide) (fun c9 => ?_) (fun c9 => absurd (by decide) c9)
  exact W.vret hx hb hr (fun t ht hW => ⟨⟨H35, rfl, ⟨hsz, mo_congR hM (by decide +kernel)⟩, ht⟩, hS.F ht⟩) hS.2.2 dX6_init_178
