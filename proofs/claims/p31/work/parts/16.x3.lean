set_option maxHeartbeats 600000 in
set_option maxRecDepth 100000 in
theorem c_X3_dropOldest (l : Launch) (D : va_G) (G : Nat → ClassId) (h : Nat → Nat) (B : Nat → Nat → Nat) (w : Nat → Nat) (sv : Nat → Nat → Int32) (n : Nat) (H : Heap) (hI : HI D G h B w sv n H) (ha9 : hap h B) (hw : pm w) : Met l yX3_dropOldest wsX3_dropOldest ({ frames := 0, cells := 0, slots := 0, locals := 0 } : Room) (va_Pc [.ref (h 0)] (CX D G H)) (QV (hA h B) (fun q => Array.size q = Array.size H ∧ HI D G h B (rot w) (fun i => if i < 5 then sv (i + 1) else sv 0) 5 q)) 0 0 (hA h B) := by
  refine Met.ofW (cc := cX3_dropOldest) (maxL := 3) (ret := none) (by decide) rfl ?_
  intro p e s m args below meth c s₁ B0 hml hv
  obtain ⟨rfl, rfl, hK, hN⟩ := hv
  have hx := B0.exec
  have hb := B0.bytes
  have hr := B0.returns
  have hts := atoms_spec (ws := wsX3_dropOldest) B0.pre
  have hown : s.vm.findClass RX3 = some m.cls := findClass_of_methodNamed B0.named
  have hlocks := B0.notSynchronized
  have hF : CallFix p m c cX3_dropOldest 3 s ([.ref (h 0)] : List Value).toArray wsX3_dropOldest RX3 := ⟨hx, hb, hml, hown, hts⟩
  have hS : va_S (hA h B) s.heap s.heap [] := va_S.rf
  have hl := lv_entry ([.ref (h 0)]) (n := 3) (Nat.le_of_ble_eq_true rfl)
  rw [lg_entry_eq]
  generalize (lg_sl ([.ref (h 0)]) ++ List.replicate (3 - (lg_sl ([.ref (h 0)])).length) Slot.unset).toArray = ls at hl ⊢
  have hl : lv_has ls 3 [(0, .ref (h 0))] := hl
  have hsz : Array.size s.heap = Array.size s.heap := rfl
  obtain ⟨h0, hArr, hq9⟩ := hI
  refine lv_aload_n hx hb dX3_dropOldest_0 rfl (lv_at hl 0 rfl) ?_
  refine dp_get hx hb hts (dp_hin 3 rfl) hown hK h0 rfl 0 (by decide) (hts (.fieldLink RX3 11 "DroopBoard$History" "states" "[LDroopBoard$Board;") (List.mem_of_getElem? (i := 1) rfl)) rfl dX3_dropOldest_1 ?_
  refine lv_iconst (v := 0) hx hb dX3_dropOldest_4 (by decide) ?_
  refine dp_aald hx hb hK hArr 3 rfl 0 rfl (by decide) (by decide) rfl dX3_dropOldest_5 ?_
  refine lv_astore_n (lv' := [(1, .ref (B (w 0) 0)), (0, .ref (h 0))]) hx hb dX3_dropOldest_6 rfl hl (by decide) rfl (fun ls hl => ?_)
  refine lv_iconst (v := 1) hx hb dX3_dropOldest_7 (by decide) ?_
  refine lv_istore_n (lv' := [(2, .int 1), (1, .ref (B (w 0) 0)), (0, .ref (h 0))]) hx hb dX3_dropOldest_8 rfl hl (by decide) rfl (fun ls hl => ?_)
  refine lv_iload_n hx hb dX3_dropOldest_9 rfl (lv_at hl 0 rfl) ?_
  refine lv_aload_n hx hb dX3_dropOldest_10 rfl (lv_at hl 2 rfl) ?_
  refine dp_get hx hb hts (dp_hin 3 rfl) hown hK h0 rfl 0 (by decide) (hts (.fieldLink RX3 11 "DroopBoard$History" "states" "[LDroopBoard$Board;") (List.mem_of_getElem? (i := 1) rfl)) rfl dX3_dropOldest_11 ?_
  refine dp_alen hx hb hK hArr 3 rfl dX3_dropOldest_14 ?_
  refine lv_icmp_ge (tgt := 38) hx hb dX3_dropOldest_15 (by decide) (fun c1 => absurd c1 (by decide)) (fun c1 => ?_)
  refine lv_aload_n hx hb dX3_dropOldest_18 rfl (lv_at hl 2 rfl) ?_
  refine dp_get hx hb hts (dp_hin 3 rfl) hown hK h0 rfl 0 (by decide) (hts (.fieldLink RX3 11 "DroopBoard$History" "states" "[LDroopBoard$Board;") (List.mem_of_getElem? (i := 1) rfl)) rfl dX3_dropOldest_19 ?_
  refine lv_iload_n hx hb dX3_dropOldest_22 rfl (lv_at hl 0 rfl) ?_
  refine lv_iconst (v := 1) hx hb dX3_dropOldest_23 (by decide) ?_
  refine lv_isub hx hb dX3_dropOldest_24 ?_
  refine lv_aload_n hx hb dX3_dropOldest_25 rfl (lv_at hl 2 rfl) ?_
  refine dp_get hx hb hts (dp_hin 3 rfl) hown hK h0 rfl 0 (by decide) (hts (.fieldLink RX3 11 "DroopBoard$History" "states" "[LDroopBoard$Board;") (List.mem_of_getElem? (i := 1) rfl)) rfl dX3_dropOldest_26 ?_
  refine lv_iload_n hx hb dX3_dropOldest_29 rfl (lv_at hl 0 rfl) ?_
  refine dp_aald hx hb hK hArr 3 rfl 1 rfl (by decide) (by decide) rfl dX3_dropOldest_30 ?_
  refine dp_aast (A := hA h B) hx hb hK hArr (Or.inl ⟨1, by omega, rfl⟩) hS 3 (r := (RX0, TX0, 5)) rfl (hq9 1 (by omega)).1 rfl 0 (by decide) (by decide) (by decide) dX3_dropOldest_31 (fun H1 locs hH1 hzH1 hkH1 hS => ?_)
  have hArr := hH1
  have h0 := h0.kept (hkH1 _ (fun e => absurd (ha9.1 0 1 (by omega) (by omega) e) (by omega)))
  have hq9 := fun i (hi : i < 6) => (hq9 i hi).off1 hkH1 (fun k hk1 => hap_ne ha9 (i := 1) (by omega) (hw.1 i hi) hk1)
  have hsz := hzH1.trans hsz
  refine lv_iinc (v := 2) (lv' := [(2, .int (2)), (1, .ref (B (w 0) 0)), (0, .ref (h 0))]) hx hb dX3_dropOldest_32 hl (k := 0) rfl rfl (by decide) rfl (fun ls hl => ?_)
  refine lv_goto (tgt := 9) hx hb dX3_dropOldest_35 (by decide) ?_
  refine lv_iload_n hx hb dX3_dropOldest_9 rfl (lv_at hl 0 rfl) ?_
  refine lv_aload_n hx hb dX3_dropOldest_10 rfl (lv_at hl 2 rfl) ?_
  refine dp_get hx hb hts (dp_hin 3 rfl) hown hK h0 rfl 0 (by decide) (hts (.fieldLink RX3 11 "DroopBoard$History" "states" "[LDroopBoard$Board;") (List.mem_of_getElem? (i := 1) rfl)) rfl dX3_dropOldest_11 ?_
  refine dp_alen hx hb hK hArr 3 rfl dX3_dropOldest_14 ?_
  refine lv_icmp_ge (tgt := 38) hx hb dX3_dropOldest_15 (by decide) (fun c2 => absurd c2 (by decide)) (fun c2 => ?_)
  refine lv_aload_n hx hb dX3_dropOldest_18 rfl (lv_at hl 2 rfl) ?_
  refine dp_get hx hb hts (dp_hin 3 rfl) hown hK h0 rfl 0 (by decide) (hts (.fieldLink RX3 11 "DroopBoard$History" "states" "[LDroopBoard$Board;") (List.mem_of_getElem? (i := 1) rfl)) rfl dX3_dropOldest_19 ?_
  refine lv_iload_n hx hb dX3_dropOldest_22 rfl (lv_at hl 0 rfl) ?_
  refine lv_iconst (v := 1) hx hb dX3_dropOldest_23 (by decide) ?_
  refine lv_isub hx hb dX3_dropOldest_24 ?_
  refine lv_aload_n hx hb dX3_dropOldest_25 rfl (lv_at hl 2 rfl) ?_
  refine dp_get hx hb hts (dp_hin 3 rfl) hown hK h0 rfl 0 (by decide) (hts (.fieldLink RX3 11 "DroopBoard$History" "states" "[LDroopBoard$Board;") (List.mem_of_getElem? (i := 1) rfl)) rfl dX3_dropOldest_26 ?_
  refine lv_iload_n hx hb dX3_dropOldest_29 rfl (lv_at hl 0 rfl) ?_
  refine dp_aald hx hb hK hArr 3 rfl 2 rfl (by decide) (by decide) rfl dX3_dropOldest_30 ?_
  refine dp_aast (A := hA h B) hx hb hK hArr (Or.inl ⟨1, by omega, rfl⟩) hS 3 (r := (RX0, TX0, 5)) rfl (hq9 2 (by omega)).1 rfl 1 (by decide) (by decide) (by decide) dX3_dropOldest_31 (fun H2 locs hH2 hzH2 hkH2 hS => ?_)
  have hArr := hH2
  have h0 := h0.kept (hkH2 _ (fun e => absurd (ha9.1 0 1 (by omega) (by omega) e) (by omega)))
  have hq9 := fun i (hi : i < 6) => (hq9 i hi).off1 hkH2 (fun k hk1 => hap_ne ha9 (i := 1) (by omega) (hw.1 i hi) hk1)
  have hsz := hzH2.trans hsz
  refine lv_iinc (v := 3) (lv' := [(2, .int (3)), (1, .ref (B (w 0) 0)), (0, .ref (h 0))]) hx hb dX3_dropOldest_32 hl (k := 0) rfl rfl (by decide) rfl (fun ls hl => ?_)
  refine lv_goto (tgt := 9) hx hb dX3_dropOldest_35 (by decide) ?_
  refine lv_iload_n hx hb dX3_dropOldest_9 rfl (lv_at hl 0 rfl) ?_
  refine lv_aload_n hx hb dX3_dropOldest_10 rfl (lv_at hl 2 rfl) ?_
  refine dp_get hx hb hts (dp_hin 3 rfl) hown hK h0 rfl 0 (by decide) (hts (.fieldLink RX3 11 "DroopBoard$History" "states" "[LDroopBoard$Board;") (List.mem_of_getElem? (i := 1) rfl)) rfl dX3_dropOldest_11 ?_
  refine dp_alen hx hb hK hArr 3 rfl dX3_dropOldest_14 ?_
  refine lv_icmp_ge (tgt := 38) hx hb dX3_dropOldest_15 (by decide) (fun c3 => absurd c3 (by decide)) (fun c3 => ?_)
  refine lv_aload_n hx hb dX3_dropOldest_18 rfl (lv_at hl 2 rfl) ?_
  refine dp_get hx hb hts (dp_hin 3 rfl) hown hK h0 rfl 0 (by decide) (hts (.fieldLink RX3 11 "DroopBoard$History" "states" "[LDroopBoard$Board;") (List.mem_of_getElem? (i := 1) rfl)) rfl dX3_dropOldest_19 ?_
  refine lv_iload_n hx hb dX3_dropOldest_22 rfl (lv_at hl 0 rfl) ?_
  refine lv_iconst (v := 1) hx hb dX3_dropOldest_23 (by decide) ?_
  refine lv_isub hx hb dX3_dropOldest_24 ?_
  refine lv_aload_n hx hb dX3_dropOldest_25 rfl (lv_at hl 2 rfl) ?_
  refine dp_get hx hb hts (dp_hin 3 rfl) hown hK h0 rfl 0 (by decide) (hts (.fieldLink RX3 11 "DroopBoard$History" "states" "[LDroopBoard$Board;") (List.mem_of_getElem? (i := 1) rfl)) rfl dX3_dropOldest_26 ?_
  refine lv_iload_n hx hb dX3_dropOldest_29 rfl (lv_at hl 0 rfl) ?_
  refine dp_aald hx hb hK hArr 3 rfl 3 rfl (by decide) (by decide) rfl dX3_dropOldest_30 ?_
  refine dp_aast (A := hA h B) hx hb hK hArr (Or.inl ⟨1, by omega, rfl⟩) hS 3 (r := (RX0, TX0, 5)) rfl (hq9 3 (by omega)).1 rfl 2 (by decide) (by decide) (by decide) dX3_dropOldest_31 (fun H3 locs hH3 hzH3 hkH3 hS => ?_)
  have hArr := hH3
  have h0 := h0.kept (hkH3 _ (fun e => absurd (ha9.1 0 1 (by omega) (by omega) e) (by omega)))
  have hq9 := fun i (hi : i < 6) => (hq9 i hi).off1 hkH3 (fun k hk1 => hap_ne ha9 (i := 1) (by omega) (hw.1 i hi) hk1)
  have hsz := hzH3.trans hsz
  refine lv_iinc (v := 4) (lv' := [(2, .int (4)), (1, .ref (B (w 0) 0)), (0, .ref (h 0))]) hx hb dX3_dropOldest_32 hl (k := 0) rfl rfl (by decide) rfl (fun ls hl => ?_)
  refine lv_goto (tgt := 9) hx hb dX3_dropOldest_35 (by decide) ?_
  refine lv_iload_n hx hb dX3_dropOldest_9 rfl (lv_at hl 0 rfl) ?_
  refine lv_aload_n hx hb dX3_dropOldest_10 rfl (lv_at hl 2 rfl) ?_
  refine dp_get hx hb hts (dp_hin 3 rfl) hown hK h0 rfl 0 (by decide) (hts (.fieldLink RX3 11 "DroopBoard$History" "states" "[LDroopBoard$Board;") (List.mem_of_getElem? (i := 1) rfl)) rfl dX3_dropOldest_11 ?_
  refine dp_alen hx hb hK hArr 3 rfl dX3_dropOldest_14 ?_
  refine lv_icmp_ge (tgt := 38) hx hb dX3_dropOldest_15 (by decide) (fun c4 => absurd c4 (by decide)) (fun c4 => ?_)
  refine lv_aload_n hx hb dX3_dropOldest_18 rfl (lv_at hl 2 rfl) ?_
  refine dp_get hx hb hts (dp_hin 3 rfl) hown hK h0 rfl 0 (by decide) (hts (.fieldLink RX3 11 "DroopBoard$History" "states" "[LDroopBoard$Board;") (List.mem_of_getElem? (i := 1) rfl)) rfl dX3_dropOldest_19 ?_
  refine lv_iload_n hx hb dX3_dropOldest_22 rfl (lv_at hl 0 rfl) ?_
  refine lv_iconst (v := 1) hx hb dX3_dropOldest_23 (by decide) ?_
  refine lv_isub hx hb dX3_dropOldest_24 ?_
  refine lv_aload_n hx hb dX3_dropOldest_25 rfl (lv_at hl 2 rfl) ?_
  refine dp_get hx hb hts (dp_hin 3 rfl) hown hK h0 rfl 0 (by decide) (hts (.fieldLink RX3 11 "DroopBoard$History" "states" "[LDroopBoard$Board;") (List.mem_of_getElem? (i := 1) rfl)) rfl dX3_dropOldest_26 ?_
  refine lv_iload_n hx hb dX3_dropOldest_29 rfl (lv_at hl 0 rfl) ?_
  refine dp_aald hx hb hK hArr 3 rfl 4 rfl (by decide) (by decide) rfl dX3_dropOldest_30 ?_
  refine dp_aast (A := hA h B) hx hb hK hArr (Or.inl ⟨1, by omega, rfl⟩) hS 3 (r := (RX0, TX0, 5)) rfl (hq9 4 (by omega)).1 rfl 3 (by decide) (by decide) (by decide) dX3_dropOldest_31 (fun H4 locs hH4 hzH4 hkH4 hS => ?_)
  have hArr := hH4
  have h0 := h0.kept (hkH4 _ (fun e => absurd (ha9.1 0 1 (by omega) (by omega) e) (by omega)))
  have hq9 := fun i (hi : i < 6) => (hq9 i hi).off1 hkH4 (fun k hk1 => hap_ne ha9 (i := 1) (by omega) (hw.1 i hi) hk1)
  have hsz := hzH4.trans hsz
  refine lv_iinc (v := 5) (lv' := [(2, .int (5)), (1, .ref (B (w 0) 0)), (0, .ref (h 0))]) hx hb dX3_dropOldest_32 hl (k := 0) rfl rfl (by decide) rfl (fun ls hl => ?_)
  refine lv_goto (tgt := 9) hx hb dX3_dropOldest_35 (by decide) ?_
  refine lv_iload_n hx hb dX3_dropOldest_9 rfl (lv_at hl 0 rfl) ?_
  refine lv_aload_n hx hb dX3_dropOldest_10 rfl (lv_at hl 2 rfl) ?_
  refine dp_get hx hb hts (dp_hin 3 rfl) hown hK h0 rfl 0 (by decide) (hts (.fieldLink RX3 11 "DroopBoard$History" "states" "[LDroopBoard$Board;") (List.mem_of_getElem? (i := 1) rfl)) rfl dX3_dropOldest_11 ?_
  refine dp_alen hx hb hK hArr 3 rfl dX3_dropOldest_14 ?_
  refine lv_icmp_ge (tgt := 38) hx hb dX3_dropOldest_15 (by decide) (fun c5 => absurd c5 (by decide)) (fun c5 => ?_)
  refine lv_aload_n hx hb dX3_dropOldest_18 rfl (lv_at hl 2 rfl) ?_
  refine dp_get hx hb hts (dp_hin 3 rfl) hown hK h0 rfl 0 (by decide) (hts (.fieldLink RX3 11 "DroopBoard$History" "states" "[LDroopBoard$Board;") (List.mem_of_getElem? (i := 1) rfl)) rfl dX3_dropOldest_19 ?_
  refine lv_iload_n hx hb dX3_dropOldest_22 rfl (lv_at hl 0 rfl) ?_
  refine lv_iconst (v := 1) hx hb dX3_dropOldest_23 (by decide) ?_
  refine lv_isub hx hb dX3_dropOldest_24 ?_
  refine lv_aload_n hx hb dX3_dropOldest_25 rfl (lv_at hl 2 rfl) ?_
  refine dp_get hx hb hts (dp_hin 3 rfl) hown hK h0 rfl 0 (by decide) (hts (.fieldLink RX3 11 "DroopBoard$History" "states" "[LDroopBoard$Board;") (List.mem_of_getElem? (i := 1) rfl)) rfl dX3_dropOldest_26 ?_
  refine lv_iload_n hx hb dX3_dropOldest_29 rfl (lv_at hl 0 rfl) ?_
  refine dp_aald hx hb hK hArr 3 rfl 5 rfl (by decide) (by decide) rfl dX3_dropOldest_30 ?_
  refine dp_aast (A := hA h B) hx hb hK hArr (Or.inl ⟨1, by omega, rfl⟩) hS 3 (r := (RX0, TX0, 5)) rfl (hq9 5 (by omega)).1 rfl 4 (by decide) (by decide) (by decide) dX3_dropOldest_31 (fun H5 locs hH5 hzH5 hkH5 hS => ?_)
  have hArr := hH5
  have h0 := h0.kept (hkH5 _ (fun e => absurd (ha9.1 0 1 (by omega) (by omega) e) (by omega)))
  have hq9 := fun i (hi : i < 6) => (hq9 i hi).off1 hkH5 (fun k hk1 => hap_ne ha9 (i := 1) (by omega) (hw.1 i hi) hk1)
  have hsz := hzH5.trans hsz
  refine lv_iinc (v := 6) (lv' := [(2, .int (6)), (1, .ref (B (w 0) 0)), (0, .ref (h 0))]) hx hb dX3_dropOldest_32 hl (k := 0) rfl rfl (by decide) rfl (fun ls hl => ?_)
  refine lv_goto (tgt := 9) hx hb dX3_dropOldest_35 (by decide) ?_
  refine lv_iload_n hx hb dX3_dropOldest_9 rfl (lv_at hl 0 rfl) ?_
  refine lv_aload_n hx hb dX3_dropOldest_10 rfl (lv_at hl 2 rfl) ?_
  refine dp_get hx hb hts (dp_hin 3 rfl) hown hK h0 rfl 0 (by decide) (hts (.fieldLink RX3 11 "DroopBoard$History" "states" "[LDroopBoard$Board;") (List.mem_of_getElem? (i := 1) rfl)) rfl dX3_dropOldest_11 ?_
  refine dp_alen hx hb hK hArr 3 rfl dX3_dropOldest_14 ?_
  refine lv_icmp_ge (tgt := 38) hx hb dX3_dropOldest_15 (by decide) (fun c6 => ?_) (fun c6 => absurd (by decide) c6)
  refine lv_aload_n hx hb dX3_dropOldest_38 rfl (lv_at hl 2 rfl) ?_
  refine dp_get hx hb hts (dp_hin 3 rfl) hown hK h0 rfl 0 (by decide) (hts (.fieldLink RX3 11 "DroopBoard$History" "states" "[LDroopBoard$Board;") (List.mem_of_getElem? (i := 1) rfl)) rfl dX3_dropOldest_39 ?_
  refine lv_aload_n hx hb dX3_dropOldest_42 rfl (lv_at hl 2 rfl) ?_
  refine dp_get hx hb hts (dp_hin 3 rfl) hown hK h0 rfl 0 (by decide) (hts (.fieldLink RX3 11 "DroopBoard$History" "states" "[LDroopBoard$Board;") (List.mem_of_getElem? (i := 1) rfl)) rfl dX3_dropOldest_43 ?_
  refine dp_alen hx hb hK hArr 3 rfl dX3_dropOldest_46 ?_
  refine lv_iconst (v := 1) hx hb dX3_dropOldest_47 (by decide) ?_
  refine lv_isub hx hb dX3_dropOldest_48 ?_
  refine lv_aload_n hx hb dX3_dropOldest_49 rfl (lv_at hl 1 rfl) ?_
  refine dp_aast (A := hA h B) hx hb hK hArr (Or.inl ⟨1, by omega, rfl⟩) hS 3 (r := (RX0, TX0, 5)) rfl (hq9 0 (by omega)).1 rfl 5 (by decide) (by decide) (by decide) dX3_dropOldest_50 (fun H6 locs hH6 hzH6 hkH6 hS => ?_)
  have hArr := hH6
  have h0 := h0.kept (hkH6 _ (fun e => absurd (ha9.1 0 1 (by omega) (by omega) e) (by omega)))
  have hq9 := fun i (hi : i < 6) => (hq9 i hi).off1 hkH6 (fun k hk1 => hap_ne ha9 (i := 1) (by omega) (hw.1 i hi) hk1)
  have hsz := hzH6.trans hsz
  refine lv_aload_n hx hb dX3_dropOldest_51 rfl (lv_at hl 2 rfl) ?_
  refine lv_aload_n hx hb dX3_dropOldest_52 rfl (lv_at hl 2 rfl) ?_
  refine dp_get hx hb hts (dp_hin 3 rfl) hown hK h0 rfl 0 (by decide) (hts (.fieldLink RX3 11 "DroopBoard$History" "states" "[LDroopBoard$Board;") (List.mem_of_getElem? (i := 1) rfl)) rfl dX3_dropOldest_53 ?_
  refine dp_alen hx hb hK hArr 3 rfl dX3_dropOldest_56 ?_
  refine lv_iconst (v := 1) hx hb dX3_dropOldest_57 (by decide) ?_
  refine lv_isub hx hb dX3_dropOldest_58 ?_
  rw [show nI 6 - 1 = nI 5 from by decide]
  refine dp_put (A := hA h B) (v := .int (nI 5)) hx hb hts (dp_hin 3 rfl) tyX3 tyX3_ok nmX3 hown hK h0 (Or.inl ⟨0, by omega, rfl⟩) hS rfl 1 (by decide) (hts (.fieldLink RX3 18 "DroopBoard$History" "size" "I") (List.mem_of_getElem? (i := 2) rfl)) rfl rfl rfl (Nat.le_of_ble_eq_true rfl) dX3_dropOldest_59 (fun H7 locs hH7 hzH7 hkH7 hS => ?_)
  have h0 := hH7
  have hArr := hArr.kept (hkH7 _ (fun e => absurd (ha9.1 1 0 (by omega) (by omega) e) (by omega)))
  have hq9 := fun i (hi : i < 6) => (hq9 i hi).off1 hkH7 (fun k hk1 => hap_ne ha9 (i := 0) (by omega) (hw.1 i hi) hk1)
  have hsz := hzH7.trans hsz
  exact W.vret hx hb hr (fun t ht hW => ⟨⟨H7, rfl, ⟨hsz, h0, at_congq hArr (fun j hj => by match j, hj with | 0, _ | 1, _ | 2, _ | 3, _ | 4, _ | 5, _ => rfl), fun i hi => by match i, hi with | 0, _ => exact hq9 1 (by omega) | 1, _ => exact hq9 2 (by omega) | 2, _ => exact hq9 3 (by omega) | 3, _ => exact hq9 4 (by omega) | 4, _ => exact hq9 5 (by omega) | 5, _ => exact hq9 0 (by omega)⟩, ht⟩, hS.F ht⟩) hS.2.2 dX3_dropOldest_62

set_option maxHeartbeats 600000 in
set_option maxRecDepth 100000 in
theorem c_X3_save (l : Launch) (D : va_G) (G : Nat → ClassId) (h : Nat → Nat) (B : Nat → Nat → Nat) (w : Nat → Nat) (sv : Nat → Nat → Int32) (n : Nat) (b : Nat → Nat) (R : Nat → Int32) (H : Heap) (hI : HI D G h B w sv n H) (ha9 : hap h B) (hw : pm w) (hB : BD D G b R H) (hnb : ∀ j k i, j < 6 → k < 11 → i < 11 → B j k ≠ b i) (hbz : bz R) (hhb : ∀ i k, i < 2 → k < 11 → h i ≠ b k) (hn6 : n ≤ 6) : Met l yX3_save wsX3_save ({ frames := 2, cells := 0, slots := 0, locals := 43 } : Room) (va_Pc [.ref (h 0), .ref (b 0)] (CX D G H)) (QV (hA h B) (fun q => Array.size q = Array.size H ∧ ∃ w2, pm w2 ∧ HI D G h B w2 (svs sv n R) (svn n) q)) 0 0 (hA h B) := by
  refine Met.ofW (cc := cX3_save) (maxL := 2) (ret := none) (by decide) rfl ?_
  intro p e s m args below meth c s₁ B0 hml hv
  obtain ⟨rfl, rfl, hK, hN⟩ := hv
  have hx := B0.exec
  have hb := B0.bytes
  have hr := B0.returns
  have hts := atoms_spec (ws := wsX3_save) B0.pre
  have hown : s.vm.findClass RX3 = some m.cls := findClass_of_methodNamed B0.named
  have hlocks := B0.notSynchronized
  have hF : CallFix p m c cX3_save 2 s ([.ref (h 0), .ref (b 0)] : List Value).toArray wsX3_save RX3 := ⟨hx, hb, hml, hown, hts⟩
  have hS : va_S (hA h B) s.heap s.heap [] := va_S.rf
  have hl := lv_entry ([.ref (h 0), .ref (b 0)]) (n := 2) (Nat.le_of_ble_eq_true rfl)
  rw [lg_entry_eq]
  generalize (lg_sl ([.ref (h 0), .ref (b 0)]) ++ List.replicate (2 - (lg_sl ([.ref (h 0), .ref (b 0)])).length) Slot.unset).toArray = ls at hl ⊢
  have hl : lv_has ls 2 [(0, .ref (h 0)), (1, .ref (b 0))] := hl
  have hsz : Array.size s.heap = Array.size s.heap := rfl
  obtain ⟨h0, hArr, hq9⟩ := hI
  rcases Nat.lt_or_ge n 6 with hn9 | hn9
  · have hlt6 := hn9
    refine lv_aload_n hx hb dX3_save_0 rfl (lv_at hl 0 rfl) ?_
    refine dp_get hx hb hts (dp_hin 41 rfl) hown hK h0 rfl 1 (by decide) (hts (.fieldLink RX3 18 "DroopBoard$History" "size" "I") (List.mem_of_getElem? (i := 1) rfl)) rfl dX3_save_1 ?_
    refine lv_aload_n hx hb dX3_save_4 rfl (lv_at hl 0 rfl) ?_
    refine dp_get hx hb hts (dp_hin 41 rfl) hown hK h0 rfl 0 (by decide) (hts (.fieldLink RX3 11 "DroopBoard$History" "states" "[LDroopBoard$Board;") (List.mem_of_getElem? (i := 2) rfl)) rfl dX3_save_5 ?_
    refine dp_alen hx hb hK hArr 3 rfl dX3_save_8 ?_
    refine lv_icmp_lt (tgt := 16) hx hb dX3_save_9 (by decide) (fun c1 => ?_) (fun c1 => absurd (nI_lt (a := n) (b := 6) (by omega) (by decide)) c1)
    refine lv_aload_n hx hb dX3_save_16 rfl (lv_at hl 0 rfl) ?_
    refine dp_get hx hb hts (dp_hin 41 rfl) hown hK h0 rfl 0 (by decide) (hts (.fieldLink RX3 11 "DroopBoard$History" "states" "[LDroopBoard$Board;") (List.mem_of_getElem? (i := 2) rfl)) rfl dX3_save_17 ?_
    refine lv_aload_n hx hb dX3_save_20 rfl (lv_at hl 0 rfl) ?_
    refine dp_get hx hb hts (dp_hin 41 rfl) hown hK h0 rfl 1 (by decide) (hts (.fieldLink RX3 18 "DroopBoard$History" "size" "I") (List.mem_of_getElem? (i := 1) rfl)) rfl dX3_save_21 ?_
    refine dp_aald hx hb hK hArr 3 rfl n rfl hlt6 (by decide) rfl dX3_save_24 ?_
    refine lv_aload_n hx hb dX3_save_25 rfl (lv_at hl 1 rfl) ?_
    refine dp_Vv hF hK hN (c_X0_copyFrom l D G (B (w n)) b (sv n) R _ (hq9 n hlt6) hB (hap_in ha9 (hw.1 n hlt6)) (fun i j hi hj => hnb _ i j (hw.1 n hlt6) hi hj) hbz) (cwV 1 hts gX3_save_X0_copyFrom rfl rfl rfl (by decide +kernel) ⟨Nat.le_of_ble_eq_true rfl, Nat.le_of_ble_eq_true rfl⟩) (dp_recv hK (hq9 n hlt6).1 rfl) hS (fun q hq => by obtain ⟨k, hk, e⟩ := hq; exact Or.inr ⟨_, k, hw.1 n hlt6, hk, e⟩) [] rfl rfl hl.1 (Nat.le_of_ble_eq_true rfl) dX3_save_26 ⟨Nat.le_of_ble_eq_true rfl, Nat.le_of_ble_eq_true rfl⟩ (fun H1 locs hp hzH1 hkH1 hS => ?_)
    obtain ⟨hz9, hc9⟩ := hp
    have hsz := hz9.trans hsz
    have h0 := h0.kept (hkH1 _ h0.lt (fun q => by obtain ⟨k, hk, e⟩ := q; exact ha9.2.2 0 _ k (by omega) (hw.1 n hlt6) hk e))
    have hArr := hArr.kept (hkH1 _ hArr.lt (fun q => by obtain ⟨k, hk, e⟩ := q; exact ha9.2.2 1 _ k (by omega) (hw.1 n hlt6) hk e))
    have hq9 : ∀ i, i < 6 → BD D G (B (w i)) (if i = n then R else sv i) H1 := fun i hi => by
      by_cases e : i = n
      · subst e; rw [if_pos rfl]; exact hc9
      · rw [if_neg e]; exact (hq9 i hi).off hkH1 (fun k hk q => by obtain ⟨k2, hk2, e2⟩ := q; exact e (hw.2 i n hi hlt6 (ha9.2.1 _ _ _ _ (hw.1 i hi) (hw.1 n hlt6) hk hk2 e2).1))
    refine lv_aload_n hx hb dX3_save_29 rfl (lv_at hl 0 rfl) ?_
    refine lv_dup hx hb dX3_save_30 rfl ?_
    refine dp_get hx hb hts (dp_hin 41 rfl) hown hK h0 rfl 1 (by decide) (hts (.fieldLink RX3 18 "DroopBoard$History" "size" "I") (List.mem_of_getElem? (i := 1) rfl)) rfl dX3_save_31 ?_
    refine lv_iconst (v := 1) hx hb dX3_save_34 (by decide) ?_
    refine lv_iadd hx hb dX3_save_35 ?_
    refine dp_put (A := hA h B) (v := .int ((nI n) + 1)) hx hb hts (dp_hin 41 rfl) tyX3 tyX3_ok nmX3 hown hK h0 (Or.inl ⟨0, by omega, rfl⟩) hS rfl 1 (by decide) (hts (.fieldLink RX3 18 "DroopBoard$History" "size" "I") (List.mem_of_getElem? (i := 1) rfl)) rfl rfl rfl (Nat.le_of_ble_eq_true rfl) dX3_save_36 (fun H2 locs hH2 hzH2 hkH2 hS => ?_)
    have h0 : va_at D vwCl (h 0, .inr (3, [.ref (h 1), .int (nI (n + 1))])) H2 := by rw [← nI_1]; exact hH2
    have hArr := hArr.kept (hkH2 _ (fun e => absurd (ha9.1 1 0 (by omega) (by omega) e) (by omega)))
    have hq9 := fun i (hi : i < 6) => (hq9 i hi).off1 hkH2 (fun k hk1 => hap_ne ha9 (i := 0) (by omega) (hw.1 i hi) hk1)
    have hsz := hzH2.trans hsz
    exact W.vret hx hb hr (fun t ht hW => ⟨⟨H2, rfl, ⟨hsz, w, hw, by rw [svn, if_pos hlt6]; exact h0, hArr, fun i hi => by rw [svs, if_pos hlt6]; exact hq9 i hi⟩, ht⟩, hS.F ht⟩) hS.2.2 dX3_save_39
  · obtain rfl : n = 6 := by omega
    refine lv_aload_n hx hb dX3_save_0 rfl (lv_at hl 0 rfl) ?_
    refine dp_get hx hb hts (dp_hin 41 rfl) hown hK h0 rfl 1 (by decide) (hts (.fieldLink RX3 18 "DroopBoard$History" "size" "I") (List.mem_of_getElem? (i := 1) rfl)) rfl dX3_save_1 ?_
    refine lv_aload_n hx hb dX3_save_4 rfl (lv_at hl 0 rfl) ?_
    refine dp_get hx hb hts (dp_hin 41 rfl) hown hK h0 rfl 0 (by decide) (hts (.fieldLink RX3 11 "DroopBoard$History" "states" "[LDroopBoard$Board;") (List.mem_of_getElem? (i := 2) rfl)) rfl dX3_save_5 ?_
    refine dp_alen hx hb hK hArr 3 rfl dX3_save_8 ?_
    refine lv_icmp_lt (tgt := 16) hx hb dX3_save_9 (by decide) (fun c2 => absurd c2 (nI_nlt (a := 6) (b := 6) (by omega) (by decide))) (fun c2 => ?_)
    refine lv_aload_n hx hb dX3_save_12 rfl (lv_at hl 0 rfl) ?_
    refine dp_Vv hF hK hN (c_X3_dropOldest l D G h B w sv 6 _ ⟨h0, hArr, hq9⟩ ha9 hw) (cwV 0 hts gX3_save_X3_dropOldest rfl rfl rfl (by decide +kernel) ⟨Nat.le_of_ble_eq_true rfl, Nat.le_of_ble_eq_true rfl⟩) (dp_recv hK h0 rfl) hS (fun q hq => hq) [] rfl rfl hl.1 (Nat.le_of_ble_eq_true rfl) dX3_save_13 ⟨Nat.le_of_ble_eq_true rfl, Nat.le_of_ble_eq_true rfl⟩ (fun H3 locs hp hzH3 hkH3 hS => ?_)
    obtain ⟨hz9, h0, hArr, hq9⟩ := hp
    have hsz := hz9.trans hsz
    have hB := hB.off hkH3 (fun k hk q => by rcases q with ⟨i, hi, e⟩ | ⟨j, i, hj, hi, e⟩; exact hhb i k hi hk e.symm; exact hnb j i k hj hi hk e.symm)
    have hw := pm_rot hw
    refine lv_aload_n hx hb dX3_save_16 rfl (lv_at hl 0 rfl) ?_
    refine dp_get hx hb hts (dp_hin 41 rfl) hown hK h0 rfl 0 (by decide) (hts (.fieldLink RX3 11 "DroopBoard$History" "states" "[LDroopBoard$Board;") (List.mem_of_getElem? (i := 2) rfl)) rfl dX3_save_17 ?_
    refine lv_aload_n hx hb dX3_save_20 rfl (lv_at hl 0 rfl) ?_
    refine dp_get hx hb hts (dp_hin 41 rfl) hown hK h0 rfl 1 (by decide) (hts (.fieldLink RX3 18 "DroopBoard$History" "size" "I") (List.mem_of_getElem? (i := 1) rfl)) rfl dX3_save_21 ?_
    refine dp_aald hx hb hK hArr 3 rfl 5 rfl (by decide) (by decide) rfl dX3_save_24 ?_
    refine lv_aload_n hx hb dX3_save_25 rfl (lv_at hl 1 rfl) ?_
    refine dp_Vv hF hK hN (c_X0_copyFrom l D G (B (rot w 5)) b ((fun i => if i < 5 then sv (i + 1) else sv 0) 5) R _ (hq9 5 (by omega)) hB (hap_in ha9 (hw.1 5 (by omega))) (fun i j hi hj => hnb _ i j (hw.1 5 (by omega)) hi hj) hbz) (cwV 1 hts gX3_save_X0_copyFrom rfl rfl rfl (by decide +kernel) ⟨Nat.le_of_ble_eq_true rfl, Nat.le_of_ble_eq_true rfl⟩) (dp_recv hK (hq9 5 (by omega)).1 rfl) hS (fun q hq => by obtain ⟨k, hk, e⟩ := hq; exact Or.inr ⟨_, k, hw.1 5 (by omega), hk, e⟩) [] rfl rfl hl.1 (Nat.le_of_ble_eq_true rfl) dX3_save_26 ⟨Nat.le_of_ble_eq_true rfl, Nat.le_of_ble_eq_true rfl⟩ (fun H4 locs hp hzH4 hkH4 hS => ?_)
    obtain ⟨hz9, hc9⟩ := hp
    have hsz := hz9.trans hsz
    have h0 := h0.kept (hkH4 _ h0.lt (fun q => by obtain ⟨k, hk, e⟩ := q; exact ha9.2.2 0 _ k (by omega) (hw.1 5 (by omega)) hk e))
    have hArr := hArr.kept (hkH4 _ hArr.lt (fun q => by obtain ⟨k, hk, e⟩ := q; exact ha9.2.2 1 _ k (by omega) (hw.1 5 (by omega)) hk e))
    have hq9 : ∀ i, i < 6 → BD D G (B (rot w i)) (if i = 5 then R else (fun i => if i < 5 then sv (i + 1) else sv 0) i) H4 := fun i hi => by
      by_cases e : i = 5
      · subst e; rw [if_pos rfl]; exact hc9
      · rw [if_neg e]; exact (hq9 i hi).off hkH4 (fun k hk q => by obtain ⟨k2, hk2, e2⟩ := q; exact e (hw.2 i 5 hi (by omega) (ha9.2.1 _ _ _ _ (hw.1 i hi) (hw.1 5 (by omega)) hk hk2 e2).1))
    refine lv_aload_n hx hb dX3_save_29 rfl (lv_at hl 0 rfl) ?_
    refine lv_dup hx hb dX3_save_30 rfl ?_
    refine dp_get hx hb hts (dp_hin 41 rfl) hown hK h0 rfl 1 (by decide) (hts (.fieldLink RX3 18 "DroopBoard$History" "size" "I") (List.mem_of_getElem? (i := 1) rfl)) rfl dX3_save_31 ?_
    refine lv_iconst (v := 1) hx hb dX3_save_34 (by decide) ?_
    refine lv_iadd hx hb dX3_save_35 ?_
    refine dp_put (A := hA h B) (v := .int ((nI 5) + 1)) hx hb hts (dp_hin 41 rfl) tyX3 tyX3_ok nmX3 hown hK h0 (Or.inl ⟨0, by omega, rfl⟩) hS rfl 1 (by decide) (hts (.fieldLink RX3 18 "DroopBoard$History" "size" "I") (List.mem_of_getElem? (i := 1) rfl)) rfl rfl rfl (Nat.le_of_ble_eq_true rfl) dX3_save_36 (fun H5 locs hH5 hzH5 hkH5 hS => ?_)
    have h0 : va_at D vwCl (h 0, .inr (3, [.ref (h 1), .int (nI (5 + 1))])) H5 := by rw [← nI_1]; exact hH5
    have hArr := hArr.kept (hkH5 _ (fun e => absurd (ha9.1 1 0 (by omega) (by omega) e) (by omega)))
    have hq9 := fun i (hi : i < 6) => (hq9 i hi).off1 hkH5 (fun k hk1 => hap_ne ha9 (i := 0) (by omega) (hw.1 i hi) hk1)
    have hsz := hzH5.trans hsz
    exact W.vret hx hb hr (fun t ht hW => ⟨⟨H5, rfl, ⟨hsz, rot w, hw, h0, hArr, fun i hi => by match i, hi with | 0, _ => exact hq9 0 (by omega) | 1, _ => exact hq9 1 (by omega) | 2, _ => exact hq9 2 (by omega) | 3, _ => exact hq9 3 (by omega) | 4, _ => exact hq9 4 (by omega) | 5, _ => exact hq9 5 (by omega)⟩, ht⟩, hS.F ht⟩) hS.2.2 dX3_save_39
