/-! the law's loop -/
theorem LInv.succ {D : va_G} {G : Nat → ClassId} {N o c9 : Nat} {H : Heap} (h : LInv D G N o c9 H) : LInv D G N o (c9 + 1) H := by
  obtain ⟨R, RS, N9, S, F, sv, n, len, kp, th, oo, m9, hDW, hMM, hLo, hg, hbu, hn6, hl6, hsv, hks, hm9⟩ := h
  exact ⟨R, RS, N9, S, F, sv, n, len, kp, th, oo, m9, hDW, hMM, hLo, hg, hbu, hn6, hl6, hsv, hks, by omega⟩
theorem nI_up4 {i : Nat} : nI i + Int32.ofInt 4 = nI (i + 4) := by
  rw [show Int32.ofInt 4 = (3 + 1 : Int32) by decide, ← Int32.add_assoc, nI_3 i, nI_1 (i + 3)]
set_option maxHeartbeats 1600000 in
set_option maxRecDepth 100000 in
theorem law_step {p : Program} {l : Launch} {e : Env} {s : State} {m : MethodId} {below : List Frame} {meth : Method} {c : Code} {D : va_G} {G : Nat → ClassId} {b N o L : Nat} {xs : Nat → Int32} {Q : State → Prop} {c9 : Nat} {H : Heap} {locs : List Loc} {cells slots : Nat} {ls : Array Slot} (C0 : LC p l s m b c D G N o L xs) (hcs : cells + 4 ≤ 643901 ∧ slots + 24 ≤ 7164402) (hS : va_S (fun q => s.heap.size ≤ q) s.heap H locs) (hI : LInv D G N o c9 H) (hc9 : c9 < 512) (i : Nat) (hi : i + 4 ≤ L) (hl : lv_has ls 9 [(0, .ref b), (1, .ref N), (2, .ref (N + 104)), (3, .ref o), (4, .int (nI i))]) (kk : ∀ (H1 : Heap) (locs1 : List Loc) (ls1 : Array Slot), va_S (fun q => s.heap.size ≤ q) s.heap H1 locs1 → LInv D G N o (c9 + 1) H1 → lv_has ls1 9 [(0, .ref b), (1, .ref N), (2, .ref (N + 104)), (3, .ref o), (4, .int (nI i))] → W p l e room_1 s m #[Value.ref b] below meth c H1 locs1 (cells + 4) (slots + 24) Q (F0 m 1574 ls1 [])) : W p l e room_1 s m #[Value.ref b] below meth c H locs cells slots Q (F0 m 39 ls [.int (xs i &&& 31)]) := by
  have hx := C0.1
  have hb := C0.2.1
  obtain ⟨j, hj, e9⟩ := pk_andE (xs i) (m := 31) 5 (by decide)
  rw [e9]
  rcases (show j = 0 ∨ j = 1 ∨ j = 2 ∨ j = 3 ∨ j = 4 ∨ j = 5 ∨ j = 6 ∨ j = 7 ∨ j = 8 ∨ j = 9 ∨ j = 10 ∨ j = 11 ∨ j = 12 ∨ j = 13 ∨ j = 14 ∨ j = 15 ∨ j = 16 ∨ j = 17 ∨ j = 18 ∨ j = 19 ∨ j = 20 ∨ j = 21 ∨ j = 22 ∨ j = 23 ∨ j = 24 ∨ j = 25 ∨ j = 26 ∨ j = 27 ∨ 28 ≤ j by omega) with rfl | rfl | rfl | rfl | rfl | rfl | rfl | rfl | rfl | rfl | rfl | rfl | rfl | rfl | rfl | rfl | rfl | rfl | rfl | rfl | rfl | rfl | rfl | rfl | rfl | rfl | rfl | rfl | h28
  · exact lv_tableIn (off := 125) (tgt := 164) hx hb dL_law_39 (by decide) (by decide) rfl (by decide) (K_build C0 hcs hS hI hc9 i hi hl kk)
  · exact lv_tableIn (off := 205) (tgt := 244) hx hb dL_law_39 (by decide) (by decide) rfl (by decide) (K_speed C0 hcs hS hI hc9 i hi hl kk)
  · exact lv_tableIn (off := 273) (tgt := 312) hx hb dL_law_39 (by decide) (by decide) rfl (by decide) (K_run C0 hcs hS hI hc9 i hi hl kk)
  · exact lv_tableIn (off := 329) (tgt := 368) hx hb dL_law_39 (by decide) (by decide) rfl (by decide) (K_halt C0 hcs hS hI hc9 i hi hl kk)
  · exact lv_tableIn (off := 385) (tgt := 424) hx hb dL_law_39 (by decide) (by decide) rfl (by decide) (K_close C0 hcs hS hI hc9 i hi hl kk)
  · exact lv_tableIn (off := 441) (tgt := 480) hx hb dL_law_39 (by decide) (by decide) rfl (by decide) (K_open C0 hcs hS hI hc9 i hi hl kk)
  · exact lv_tableIn (off := 497) (tgt := 536) hx hb dL_law_39 (by decide) (by decide) rfl (by decide) (K_load C0 hcs hS hI hc9 i hi hl kk)
  · exact lv_tableIn (off := 565) (tgt := 604) hx hb dL_law_39 (by decide) (by decide) rfl (by decide) (K_feeder C0 hcs hS hI hc9 i hi hl kk)
  · exact lv_tableIn (off := 633) (tgt := 672) hx hb dL_law_39 (by decide) (by decide) rfl (by decide) (K_pass C0 hcs hS hI hc9 i hi hl kk)
  · exact lv_tableIn (off := 689) (tgt := 728) hx hb dL_law_39 (by decide) (by decide) rfl (by decide) (K_set C0 hcs hS hI hc9 i hi hl kk)
  · exact lv_tableIn (off := 757) (tgt := 796) hx hb dL_law_39 (by decide) (by decide) rfl (by decide) (K_append C0 hcs hS hI hc9 i hi hl kk)
  · exact lv_tableIn (off := 813) (tgt := 852) hx hb dL_law_39 (by decide) (by decide) rfl (by decide) (K_clearBuffer C0 hcs hS hI hc9 i hi hl kk)
  · exact lv_tableIn (off := 826) (tgt := 865) hx hb dL_law_39 (by decide) (by decide) rfl (by decide) (K_firstError C0 hcs hS hI hc9 i hi hl kk)
  · exact lv_tableIn (off := 839) (tgt := 878) hx hb dL_law_39 (by decide) (by decide) rfl (by decide) (K_obey C0 hcs hS hI hc9 i hi hl kk)
  · exact lv_tableIn (off := 883) (tgt := 922) hx hb dL_law_39 (by decide) (by decide) rfl (by decide) (K_keep C0 hcs hS hI hc9 i hi hl kk)
  · exact lv_tableIn (off := 896) (tgt := 935) hx hb dL_law_39 (by decide) (by decide) rfl (by decide) (K_goBack C0 hcs hS hI hc9 i hi hl kk)
  · exact lv_tableIn (off := 940) (tgt := 979) hx hb dL_law_39 (by decide) (by decide) rfl (by decide) (K_undo C0 hcs hS hI hc9 i hi hl kk)
  · exact lv_tableIn (off := 984) (tgt := 1023) hx hb dL_law_39 (by decide) (by decide) rfl (by decide) (K_diesel C0 hcs hS hI hc9 i hi hl kk)
  · exact lv_tableIn (off := 1052) (tgt := 1091) hx hb dL_law_39 (by decide) (by decide) rfl (by decide) (K_line C0 hcs hS hI hc9 i hi hl kk)
  · exact lv_tableIn (off := 1120) (tgt := 1159) hx hb dL_law_39 (by decide) (by decide) rfl (by decide) (K_count C0 hcs hS hI hc9 i hi hl kk)
  · exact lv_tableIn (off := 1176) (tgt := 1215) hx hb dL_law_39 (by decide) (by decide) rfl (by decide) (K_setting C0 hcs hS hI hc9 i hi hl kk)
  · exact lv_tableIn (off := 1232) (tgt := 1271) hx hb dL_law_39 (by decide) (by decide) rfl (by decide) (K_ifSpeed C0 hcs hS hI hc9 i hi hl kk)
  · exact lv_tableIn (off := 1312) (tgt := 1351) hx hb dL_law_39 (by decide) (by decide) rfl (by decide) (K_closeIn C0 hcs hS hI hc9 i hi hl kk)
  · exact lv_tableIn (off := 1368) (tgt := 1407) hx hb dL_law_39 (by decide) (by decide) rfl (by decide) (K_fairSpeed C0 hcs hS hI hc9 i hi hl kk)
  · exact lv_tableIn (off := 1424) (tgt := 1463) hx hb dL_law_39 (by decide) (by decide) rfl (by decide) (K_nextTrip C0 hcs hS hI hc9 i hi hl kk)
  · exact lv_tableIn (off := 1437) (tgt := 1476) hx hb dL_law_39 (by decide) (by decide) rfl (by decide) (K_loadShare C0 hcs hS hI hc9 i hi hl kk)
  · exact lv_tableIn (off := 1478) (tgt := 1517) hx hb dL_law_39 (by decide) (by decide) rfl (by decide) (K_meanPower C0 hcs hS hI hc9 i hi hl kk)
  · exact lv_tableIn (off := 1521) (tgt := 1560) hx hb dL_law_39 (by decide) (by decide) rfl (by decide) (K_digest C0 hcs hS hI hc9 i hi hl kk)
  · refine lv_tableOut (tgt := 1574) hx hb dL_law_39 (Or.inr (by rw [nI_toInt (by omega)]; omega)) (by decide) ?_
    refine W.widen (k := cells + 4) (n := slots + 24) (by omega) (by omega) ?_
    exact kk H locs ls hS hI.succ hl
set_option maxRecDepth 100000 in
theorem law_head {p : Program} {l : Launch} {e : Env} {s : State} {m : MethodId} {below : List Frame} {meth : Method} {c : Code} {D : va_G} {G : Nat → ClassId} {b N o L : Nat} {xs : Nat → Int32} {Q : State → Prop} {H : Heap} {locs : List Loc} {cells slots : Nat} {ls : Array Slot} (C0 : LC p l s m b c D G N o L xs) (hS : va_S (fun q => s.heap.size ≤ q) s.heap H locs) (i : Nat) (hi : i ≤ 2048) (hl : lv_has ls 9 [(0, .ref b), (1, .ref N), (2, .ref (N + 104)), (3, .ref o), (4, .int (nI i))]) (kt : L < i + 4 → W p l e room_1 s m #[Value.ref b] below meth c H locs cells slots Q (F0 m 1580 ls [])) (kf : i + 4 ≤ L → W p l e room_1 s m #[Value.ref b] below meth c H locs cells slots Q (F0 m 39 ls [.int (xs i &&& 31)])) : W p l e room_1 s m #[Value.ref b] below meth c H locs cells slots Q (F0 m 23 ls []) := by
  obtain ⟨hx, hb, hml, hown, hts, hK, hN, hE, hZ, hC, hl9, hN0, ho, hX, hbl, hL⟩ := C0
  refine lv_iload hx hb dL_law_23 (lv_at hl 4 rfl) ?_
  refine lv_aload_n hx hb dL_law_25 rfl (lv_at hl 0 rfl) ?_
  refine va_slen hx hb hX hbl (Nat.not_le.mpr hbl) hS dL_law_26 ?_
  refine lv_iconst (v := 4) hx hb dL_law_27 (by decide) ?_
  refine lv_isub hx hb dL_law_28 ?_
  refine lv_icmp_gt (tgt := 1580) hx hb dL_law_29 (by decide) (fun c1 => kt ((nI_i4 hi hL).mp c1)) (fun c1 => ?_)
  have hi4 : i + 4 ≤ L := Nat.not_lt.mp (mt (nI_i4 hi hL).mpr c1)
  refine lv_aload_n hx hb dL_law_32 rfl (lv_at hl 0 rfl) ?_
  refine lv_iload hx hb dL_law_33 (lv_at hl 4 rfl) ?_
  refine va_sld hx hb hX hbl (Nat.not_le.mpr hbl) hS (vp_in_nI (n := i) (N := L) (by omega) (by omega)) dL_law_35 ?_
  rw [nI_clamp (n := i) (by omega)]
  refine lv_bipush (v := 31) hx hb dL_law_36 (by decide) ?_
  refine lv_iand hx hb dL_law_38 ?_
  exact kf hi4
set_option maxHeartbeats 1600000 in
set_option maxRecDepth 100000 in
theorem law_loop {p : Program} {l : Launch} {e : Env} {s : State} {m : MethodId} {below : List Frame} {meth : Method} {c : Code} {D : va_G} {G : Nat → ClassId} {b N o L : Nat} {xs : Nat → Int32} {Q : State → Prop} (C0 : LC p l s m b c D G N o L xs) (c0 s0 : Nat) (hc0 : c0 + 2100 ≤ 643901) (hs0 : s0 + 12400 ≤ 7164402) (fin : ∀ (H : Heap) (locs : List Loc) (ls : Array Slot) (k n : Nat), va_S (fun q => s.heap.size ≤ q) s.heap H locs → k ≤ 643901 → n ≤ 7164402 → W p l e room_1 s m #[Value.ref b] below meth c H locs k n Q (F0 m 1580 ls [])) : ∀ (r c9 : Nat) (H : Heap) (locs : List Loc) (ls : Array Slot), r + c9 = 512 → va_S (fun q => s.heap.size ≤ q) s.heap H locs → LInv D G N o c9 H → lv_has ls 9 [(0, .ref b), (1, .ref N), (2, .ref (N + 104)), (3, .ref o), (4, .int (nI (4 * c9)))] → W p l e room_1 s m #[Value.ref b] below meth c H locs (c0 + 4 * c9) (s0 + 24 * c9) Q (F0 m 23 ls []) := by
  intro r
  induction r with
  | zero =>
    intro c9 H locs ls h9 hS hI hl
    have hL : L ≤ 2048 := C0.2.2.2.2.2.2.2.2.2.2.2.2.2.2.2
    exact law_head C0 hS (4 * c9) (by omega) hl (fun _ => fin H locs ls _ _ hS (by omega) (by omega)) (fun q => absurd q (by omega))
  | succ r ih =>
    intro c9 H locs ls h9 hS hI hl
    refine law_head C0 hS (4 * c9) (by omega) hl (fun _ => fin H locs ls _ _ hS (by omega) (by omega)) (fun q => ?_)
    refine law_step C0 ⟨by omega, by omega⟩ hS hI (by omega) (4 * c9) q hl (fun H1 locs1 ls1 hS1 hI1 hl1 => ?_)
    have hx := C0.1
    have hb := C0.2.1
    refine lv_iinc (v := nI (4 * c9 + 4)) (lv' := [(4, .int (nI (4 * c9 + 4))), (0, .ref b), (1, .ref N), (2, .ref (N + 104)), (3, .ref o)]) hx hb dL_law_1574 hl1 (k := 4) rfl nI_up4 (by decide) rfl (fun ls hl => ?_)
    refine lv_goto (tgt := 23) hx hb dL_law_1577 (by decide) ?_
    have h2 := ih (c9 + 1) H1 locs1 ls (by omega) hS1 hI1 (by rw [show 4 * (c9 + 1) = 4 * c9 + 4 by omega]; exact lv_sub hl [1, 2, 3, 4, 0] rfl)
    rw [show c0 + 4 * (c9 + 1) = c0 + 4 * c9 + 4 by omega, show s0 + 24 * (c9 + 1) = s0 + 24 * c9 + 24 by omega] at h2
    exact h2
