set_option maxHeartbeats 600000 in
set_option maxRecDepth 100000 in
theorem c_X6_canDo (l : Launch) (D : va_G) (G : Nat → ClassId) (μ : Nat → Nat) (R S N E P B L1 L2 L3 : Nat → Int32) (sm kp th la ln sp od : Int32) (hs : Int64) (k : Nat) (H : Heap) (hμ : inj 10 μ) (hM : MO D G μ R S N E P B L1 L2 L3 sm kp th la ln sp od hs H) (hk : k < 24) (hg : gd R) (hn : onum (L1 k) (L2 k) (L3 k)) : Met l yX6_canDo wsX6_canDo ({ frames := 6, cells := 0, slots := 0, locals := 128 } : Room) (va_Pc [.ref (μ 0), .int (nI k)] (CX D G H)) (QI nA (fun r h => H = h ∧ (aco R (L1 k) (L2 k) (L3 k)).1 = r)) 0 0 (nA) := by
  refine Met.ofW (cc := cX6_canDo) (maxL := 3) (ret := (some .boolean)) (by decide) rfl ?_
  intro p e s m args below meth c s₁ B0 hml hv
  obtain ⟨rfl, rfl, hK, hN⟩ := hv
  have hx := B0.exec
  have hb := B0.bytes
  have hr := B0.returns
  have hts := atoms_spec (ws := wsX6_canDo) B0.pre
  have hown : s.vm.findClass RX6 = some m.cls := findClass_of_methodNamed B0.named
  have hlocks := B0.notSynchronized
  have hF : CallFix p m c cX6_canDo 3 s ([.ref (μ 0), .int (nI k)] : List Value).toArray wsX6_canDo RX6 := ⟨hx, hb, hml, hown, hts⟩
  have hS : va_S (nA) s.heap s.heap [] := va_S.rf
  have hl := lv_entry ([.ref (μ 0), .int (nI k)]) (n := 3) (Nat.le_of_ble_eq_true rfl)
  rw [lg_entry_eq]
  generalize (lg_sl ([.ref (μ 0), .int (nI k)]) ++ List.replicate (3 - (lg_sl ([.ref (μ 0), .int (nI k)])).length) Slot.unset).toArray = ls at hl ⊢
  have hl : lv_has ls 3 [(0, .ref (μ 0)), (1, .int (nI k))] := hl
  have hwz := gd_wz hg
  obtain ⟨hl9, hn1, hn2, hn3, hn4⟩ := hn
  rcases hl9 with h1 | h1 | h1 | h1 | h1 | h1 | h1
  · obtain ⟨j, hj4, hj3, ej⟩ := hn2 (by rw [h1]; decide)
    have hj3 := hj3 (by rw [h1]; decide)
    have hx9 := hn4 h1
    rw [h1, ej]
    refine lv_aload_n hx hb dX6_canDo_0 rfl (lv_at hl 0 rfl) ?_
    refine dp_get hx hb hts (dp_hin 51 rfl) hown hK hM.1 rfl 14 (by decide) (hts (.fieldLink RX6 31 "DroopBoardModel" "first" "[I") (List.mem_of_getElem? (i := 1) rfl)) rfl dX6_canDo_1 ?_
    refine lv_iload_n hx hb dX6_canDo_4 rfl (lv_at hl 1 rfl) ?_
    refine dp_iald hx hb hK hM.2.2.2.2.2.2.2.2.1 0 rfl k rfl hk (by decide) dX6_canDo_5 ?_
    rw [ej]
    refine lv_istore_n (lv' := [(2, .int (nI j)), (0, .ref (μ 0)), (1, .int (nI k))]) hx hb dX6_canDo_6 rfl hl (by decide) rfl (fun ls hl => ?_)
    refine lv_aload_n hx hb dX6_canDo_7 rfl (lv_at hl 1 rfl) ?_
    refine dp_get hx hb hts (dp_hin 51 rfl) hown hK hM.1 rfl 13 (by decide) (hts (.fieldLink RX6 28 "DroopBoardModel" "letter" "[I") (List.mem_of_getElem? (i := 2) rfl)) rfl dX6_canDo_8 ?_
    refine lv_iload_n hx hb dX6_canDo_11 rfl (lv_at hl 2 rfl) ?_
    refine dp_iald hx hb hK hM.2.2.2.2.2.2.2.1 0 rfl k rfl hk (by decide) dX6_canDo_12 ?_
    rw [h1]
    refine lv_lookup (off := 94) (tgt := 107) hx hb dX6_canDo_13 (by decide) (by decide) (by decide) ?_
    refine lv_iconst (v := 1) hx hb dX6_canDo_107 (by decide) ?_
    exact W.zret (ty := .boolean) hx hb hr rfl (fun t ht hW => ⟨⟨1, s.heap, rfl, ⟨rfl, by rw [aco_s hj4]⟩, ht⟩, hS.F ht⟩) hS.2.2 dX6_canDo_108
  · obtain ⟨j, hj4, hj3, ej⟩ := hn2 (by rw [h1]; decide)
    have hj3 := hj3 (by rw [h1]; decide)
    rw [h1, ej]
    refine lv_aload_n hx hb dX6_canDo_0 rfl (lv_at hl 0 rfl) ?_
    refine dp_get hx hb hts (dp_hin 51 rfl) hown hK hM.1 rfl 14 (by decide) (hts (.fieldLink RX6 31 "DroopBoardModel" "first" "[I") (List.mem_of_getElem? (i := 1) rfl)) rfl dX6_canDo_1 ?_
    refine lv_iload_n hx hb dX6_canDo_4 rfl (lv_at hl 1 rfl) ?_
    refine dp_iald hx hb hK hM.2.2.2.2.2.2.2.2.1 0 rfl k rfl hk (by decide) dX6_canDo_5 ?_
    rw [ej]
    refine lv_istore_n (lv' := [(2, .int (nI j)), (0, .ref (μ 0)), (1, .int (nI k))]) hx hb dX6_canDo_6 rfl hl (by decide) rfl (fun ls hl => ?_)
    refine lv_aload_n hx hb dX6_canDo_7 rfl (lv_at hl 1 rfl) ?_
    refine dp_get hx hb hts (dp_hin 51 rfl) hown hK hM.1 rfl 13 (by decide) (hts (.fieldLink RX6 28 "DroopBoardModel" "letter" "[I") (List.mem_of_getElem? (i := 2) rfl)) rfl dX6_canDo_8 ?_
    refine lv_iload_n hx hb dX6_canDo_11 rfl (lv_at hl 2 rfl) ?_
    refine dp_iald hx hb hK hM.2.2.2.2.2.2.2.1 0 rfl k rfl hk (by decide) dX6_canDo_12 ?_
    rw [h1]
    refine lv_lookup (off := 43) (tgt := 56) hx hb dX6_canDo_13 (by decide) (by decide) (by decide) ?_
    refine lv_aload_n hx hb dX6_canDo_56 rfl (lv_at hl 1 rfl) ?_
    refine lv_iload_n hx hb dX6_canDo_57 rfl (lv_at hl 0 rfl) ?_
    refine lv_iconst (v := 3) hx hb dX6_canDo_58 (by decide) ?_
    refine dp_Vi hF hK hN (c_X6_of l D G μ R S N E P B L1 L2 L3 sm kp th la ln sp od hs j 3 11 _ hμ hM hj3 (by decide) rfl) (cwV 2 hts gX6_canDo_X6_of rfl rfl rfl (by decide +kernel) ⟨Nat.le_of_ble_eq_true rfl, Nat.le_of_ble_eq_true rfl⟩) (dp_recv hK hM.1 rfl) hS nA_i [] rfl rfl hl.1 (Nat.le_of_ble_eq_true rfl) dX6_canDo_59 ⟨Nat.le_of_ble_eq_true rfl, Nat.le_of_ble_eq_true rfl⟩ (fun rH1 H1 locs hp hzH1 hkH1 hS => ?_)
    obtain ⟨rfl, rfl⟩ := hp
    refine lv_if_ne (tgt := 69) hx hb dX6_canDo_62 (by decide) (fun c1 => ?_) (fun c1 => ?_)
    · refine lv_iconst (v := 0) hx hb dX6_canDo_69 (by decide) ?_
      exact W.zret (ty := .boolean) hx hb hr rfl (fun t ht hW => ⟨⟨0, s.heap, rfl, ⟨rfl, by simp [aco_r hj4, c1]⟩, ht⟩, hS.F ht⟩) hS.2.2 dX6_canDo_70
    refine lv_iconst (v := 1) hx hb dX6_canDo_65 (by decide) ?_
    refine lv_goto (tgt := 70) hx hb dX6_canDo_66 (by decide) ?_
    exact W.zret (ty := .boolean) hx hb hr rfl (fun t ht hW => ⟨⟨1, s.heap, rfl, ⟨rfl, by simp [aco_r hj4, c1]⟩, ht⟩, hS.F ht⟩) hS.2.2 dX6_canDo_70
  · obtain ⟨j, hj4, hj3, ej⟩ := hn2 (by rw [h1]; decide)
    have hj3 := hj3 (by rw [h1]; decide)
    rw [h1, ej]
    refine lv_aload_n hx hb dX6_canDo_0 rfl (lv_at hl 0 rfl) ?_
    refine dp_get hx hb hts (dp_hin 51 rfl) hown hK hM.1 rfl 14 (by decide) (hts (.fieldLink RX6 31 "DroopBoardModel" "first" "[I") (List.mem_of_getElem? (i := 1) rfl)) rfl dX6_canDo_1 ?_
    refine lv_iload_n hx hb dX6_canDo_4 rfl (lv_at hl 1 rfl) ?_
    refine dp_iald hx hb hK hM.2.2.2.2.2.2.2.2.1 0 rfl k rfl hk (by decide) dX6_canDo_5 ?_
    rw [ej]
    refine lv_istore_n (lv' := [(2, .int (nI j)), (0, .ref (μ 0)), (1, .int (nI k))]) hx hb dX6_canDo_6 rfl hl (by decide) rfl (fun ls hl => ?_)
    refine lv_aload_n hx hb dX6_canDo_7 rfl (lv_at hl 1 rfl) ?_
    refine dp_get hx hb hts (dp_hin 51 rfl) hown hK hM.1 rfl 13 (by decide) (hts (.fieldLink RX6 28 "DroopBoardModel" "letter" "[I") (List.mem_of_getElem? (i := 2) rfl)) rfl dX6_canDo_8 ?_
    refine lv_iload_n hx hb dX6_canDo_11 rfl (lv_at hl 2 rfl) ?_
    refine dp_iald hx hb hK hM.2.2.2.2.2.2.2.1 0 rfl k rfl hk (by decide) dX6_canDo_12 ?_
    rw [h1]
    refine lv_lookup (off := 58) (tgt := 71) hx hb dX6_canDo_13 (by decide) (by decide) (by decide) ?_
    refine lv_aload_n hx hb dX6_canDo_71 rfl (lv_at hl 1 rfl) ?_
    refine lv_iload_n hx hb dX6_canDo_72 rfl (lv_at hl 0 rfl) ?_
    refine dp_Vi hF hK hN (c_X6_canHalt l D G μ R S N E P B L1 L2 L3 sm kp th la ln sp od hs j _ hμ hM hj3) (cwV 1 hts gX6_canDo_X6_canHalt rfl rfl rfl (by decide +kernel) ⟨Nat.le_of_ble_eq_true rfl, Nat.le_of_ble_eq_true rfl⟩) (dp_recv hK hM.1 rfl) hS nA_i [] rfl rfl hl.1 (Nat.le_of_ble_eq_true rfl) dX6_canDo_73 ⟨Nat.le_of_ble_eq_true rfl, Nat.le_of_ble_eq_true rfl⟩ (fun rH2 H2 locs hp hzH2 hkH2 hS => ?_)
    obtain ⟨rfl, rfl⟩ := hp
    exact W.zret (ty := .boolean) hx hb hr (nz_n (by split; split; exact Or.inr rfl; exact Or.inl rfl; exact Or.inl rfl)) (fun t ht hW => ⟨⟨(if R (11 + 10 * j) = 1 then (if R (12 + 10 * j) = 0 then 1 else 0) else 0), s.heap, rfl, ⟨rfl, by rw [aco_h hj4]; rcases (gd_bz hg).1 j hj3 with ⟨z1 | z1, z2 | z2⟩ <;> simp [z1, z2]⟩, ht⟩, hS.F ht⟩) hS.2.2 dX6_canDo_76
  · obtain ⟨j, hj4, hj3, ej⟩ := hn2 (by rw [h1]; decide)
    have hj3 := hj3 (by rw [h1]; decide)
    rw [h1, ej]
    refine lv_aload_n hx hb dX6_canDo_0 rfl (lv_at hl 0 rfl) ?_
    refine dp_get hx hb hts (dp_hin 51 rfl) hown hK hM.1 rfl 14 (by decide) (hts (.fieldLink RX6 31 "DroopBoardModel" "first" "[I") (List.mem_of_getElem? (i := 1) rfl)) rfl dX6_canDo_1 ?_
    refine lv_iload_n hx hb dX6_canDo_4 rfl (lv_at hl 1 rfl) ?_
    refine dp_iald hx hb hK hM.2.2.2.2.2.2.2.2.1 0 rfl k rfl hk (by decide) dX6_canDo_5 ?_
    rw [ej]
    refine lv_istore_n (lv' := [(2, .int (nI j)), (0, .ref (μ 0)), (1, .int (nI k))]) hx hb dX6_canDo_6 rfl hl (by decide) rfl (fun ls hl => ?_)
    refine lv_aload_n hx hb dX6_canDo_7 rfl (lv_at hl 1 rfl) ?_
    refine dp_get hx hb hts (dp_hin 51 rfl) hown hK hM.1 rfl 13 (by decide) (hts (.fieldLink RX6 28 "DroopBoardModel" "letter" "[I") (List.mem_of_getElem? (i := 2) rfl)) rfl dX6_canDo_8 ?_
    refine lv_iload_n hx hb dX6_canDo_11 rfl (lv_at hl 2 rfl) ?_
    refine dp_iald hx hb hK hM.2.2.2.2.2.2.2.1 0 rfl k rfl hk (by decide) dX6_canDo_12 ?_
    rw [h1]
    refine lv_lookup (off := 64) (tgt := 77) hx hb dX6_canDo_13 (by decide) (by decide) (by decide) ?_
    refine lv_aload_n hx hb dX6_canDo_77 rfl (lv_at hl 1 rfl) ?_
    refine lv_iload_n hx hb dX6_canDo_78 rfl (lv_at hl 0 rfl) ?_
    refine dp_Vi hF hK hN (c_X6_reason l D G μ R S N E P B L1 L2 L3 sm kp th la ln sp od hs j _ hμ hM hwz hj3) (cwV 1 hts gX6_canDo_X6_reason rfl rfl rfl (by decide +kernel) ⟨Nat.le_of_ble_eq_true rfl, Nat.le_of_ble_eq_true rfl⟩) (dp_recv hK hM.1 rfl) hS nA_i [] rfl rfl hl.1 (Nat.le_of_ble_eq_true rfl) dX6_canDo_79 ⟨Nat.le_of_ble_eq_true rfl, Nat.le_of_ble_eq_true rfl⟩ (fun rH3 H3 locs hp hzH3 hkH3 hS => ?_)
    obtain ⟨rfl, rfl⟩ := hp
    refine lv_if_ne (tgt := 89) hx hb dX6_canDo_82 (by decide) (fun c2 => ?_) (fun c2 => ?_)
    · refine lv_iconst (v := 0) hx hb dX6_canDo_89 (by decide) ?_
      exact W.zret (ty := .boolean) hx hb hr rfl (fun t ht hW => ⟨⟨0, s.heap, rfl, ⟨rfl, by simp [aco_c hj4, c2]⟩, ht⟩, hS.F ht⟩) hS.2.2 dX6_canDo_90
    refine lv_iconst (v := 1) hx hb dX6_canDo_85 (by decide) ?_
    refine lv_goto (tgt := 90) hx hb dX6_canDo_86 (by decide) ?_
    exact W.zret (ty := .boolean) hx hb hr rfl (fun t ht hW => ⟨⟨1, s.heap, rfl, ⟨rfl, by simp [aco_c hj4, c2]⟩, ht⟩, hS.F ht⟩) hS.2.2 dX6_canDo_90
  · obtain ⟨j, hj4, hj3, ej⟩ := hn2 (by rw [h1]; decide)
    have hj3 := hj3 (by rw [h1]; decide)
    rw [h1, ej]
    refine lv_aload_n hx hb dX6_canDo_0 rfl (lv_at hl 0 rfl) ?_
    refine dp_get hx hb hts (dp_hin 51 rfl) hown hK hM.1 rfl 14 (by decide) (hts (.fieldLink RX6 31 "DroopBoardModel" "first" "[I") (List.mem_of_getElem? (i := 1) rfl)) rfl dX6_canDo_1 ?_
    refine lv_iload_n hx hb dX6_canDo_4 rfl (lv_at hl 1 rfl) ?_
    refine dp_iald hx hb hK hM.2.2.2.2.2.2.2.2.1 0 rfl k rfl hk (by decide) dX6_canDo_5 ?_
    rw [ej]
    refine lv_istore_n (lv' := [(2, .int (nI j)), (0, .ref (μ 0)), (1, .int (nI k))]) hx hb dX6_canDo_6 rfl hl (by decide) rfl (fun ls hl => ?_)
    refine lv_aload_n hx hb dX6_canDo_7 rfl (lv_at hl 1 rfl) ?_
    refine dp_get hx hb hts (dp_hin 51 rfl) hown hK hM.1 rfl 13 (by decide) (hts (.fieldLink RX6 28 "DroopBoardModel" "letter" "[I") (List.mem_of_getElem? (i := 2) rfl)) rfl dX6_canDo_8 ?_
    refine lv_iload_n hx hb dX6_canDo_11 rfl (lv_at hl 2 rfl) ?_
    refine dp_iald hx hb hK hM.2.2.2.2.2.2.2.1 0 rfl k rfl hk (by decide) dX6_canDo_12 ?_
    rw [h1]
    refine lv_lookup (off := 78) (tgt := 91) hx hb dX6_canDo_13 (by decide) (by decide) (by decide) ?_
    refine lv_aload_n hx hb dX6_canDo_91 rfl (lv_at hl 1 rfl) ?_
    refine lv_iload_n hx hb dX6_canDo_92 rfl (lv_at hl 0 rfl) ?_
    refine lv_iconst (v := 4) hx hb dX6_canDo_93 (by decide) ?_
    refine dp_Vi hF hK hN (c_X6_of l D G μ R S N E P B L1 L2 L3 sm kp th la ln sp od hs j 4 12 _ hμ hM hj3 (by decide) rfl) (cwV 2 hts gX6_canDo_X6_of rfl rfl rfl (by decide +kernel) ⟨Nat.le_of_ble_eq_true rfl, Nat.le_of_ble_eq_true rfl⟩) (dp_recv hK hM.1 rfl) hS nA_i [] rfl rfl hl.1 (Nat.le_of_ble_eq_true rfl) dX6_canDo_94 ⟨Nat.le_of_ble_eq_true rfl, Nat.le_of_ble_eq_true rfl⟩ (fun rH4 H4 locs hp hzH4 hkH4 hS => ?_)
    obtain ⟨rfl, rfl⟩ := hp
    refine lv_iconst (v := 1) hx hb dX6_canDo_97 (by decide) ?_
    refine lv_icmp_ne (tgt := 105) hx hb dX6_canDo_98 (by decide) (fun c3 => ?_) (fun c3 => ?_)
    · refine lv_iconst (v := 0) hx hb dX6_canDo_105 (by decide) ?_
      exact W.zret (ty := .boolean) hx hb hr rfl (fun t ht hW => ⟨⟨0, s.heap, rfl, ⟨rfl, by simp [aco_o hj4, ((gd_bz hg).1 j hj3).2.resolve_right c3]⟩, ht⟩, hS.F ht⟩) hS.2.2 dX6_canDo_106
    refine lv_iconst (v := 1) hx hb dX6_canDo_101 (by decide) ?_
    refine lv_goto (tgt := 106) hx hb dX6_canDo_102 (by decide) ?_
    exact W.zret (ty := .boolean) hx hb hr rfl (fun t ht hW => ⟨⟨1, s.heap, rfl, ⟨rfl, by simp [aco_o hj4, c3]⟩, ht⟩, hS.F ht⟩) hS.2.2 dX6_canDo_106
  · obtain ⟨j, hj4, hj3, ej⟩ := hn2 (by rw [h1]; decide)
    have hx9 := hn3 h1
    rw [h1, ej]
    refine lv_aload_n hx hb dX6_canDo_0 rfl (lv_at hl 0 rfl) ?_
    refine dp_get hx hb hts (dp_hin 51 rfl) hown hK hM.1 rfl 14 (by decide) (hts (.fieldLink RX6 31 "DroopBoardModel" "first" "[I") (List.mem_of_getElem? (i := 1) rfl)) rfl dX6_canDo_1 ?_
    refine lv_iload_n hx hb dX6_canDo_4 rfl (lv_at hl 1 rfl) ?_
    refine dp_iald hx hb hK hM.2.2.2.2.2.2.2.2.1 0 rfl k rfl hk (by decide) dX6_canDo_5 ?_
    rw [ej]
    refine lv_istore_n (lv' := [(2, .int (nI j)), (0, .ref (μ 0)), (1, .int (nI k))]) hx hb dX6_canDo_6 rfl hl (by decide) rfl (fun ls hl => ?_)
    refine lv_aload_n hx hb dX6_canDo_7 rfl (lv_at hl 1 rfl) ?_
    refine dp_get hx hb hts (dp_hin 51 rfl) hown hK hM.1 rfl 13 (by decide) (hts (.fieldLink RX6 28 "DroopBoardModel" "letter" "[I") (List.mem_of_getElem? (i := 2) rfl)) rfl dX6_canDo_8 ?_
    refine lv_iload_n hx hb dX6_canDo_11 rfl (lv_at hl 2 rfl) ?_
    refine dp_iald hx hb hK hM.2.2.2.2.2.2.2.1 0 rfl k rfl hk (by decide) dX6_canDo_12 ?_
    rw [h1]
    refine lv_lookup (off := 94) (tgt := 107) hx hb dX6_canDo_13 (by decide) (by decide) (by decide) ?_
    refine lv_iconst (v := 1) hx hb dX6_canDo_107 (by decide) ?_
    exact W.zret (ty := .boolean) hx hb hr rfl (fun t ht hW => ⟨⟨1, s.heap, rfl, ⟨rfl, by rw [aco_f hj4]⟩, ht⟩, hS.F ht⟩) hS.2.2 dX6_canDo_108
  · obtain ⟨t9, ht9, ej⟩ := hn1 h1
    rw [h1, ej]
    refine lv_aload_n hx hb dX6_canDo_0 rfl (lv_at hl 0 rfl) ?_
    refine dp_get hx hb hts (dp_hin 51 rfl) hown hK hM.1 rfl 14 (by decide) (hts (.fieldLink RX6 31 "DroopBoardModel" "first" "[I") (List.mem_of_getElem? (i := 1) rfl)) rfl dX6_canDo_1 ?_
    refine lv_iload_n hx hb dX6_canDo_4 rfl (lv_at hl 1 rfl) ?_
    refine dp_iald hx hb hK hM.2.2.2.2.2.2.2.2.1 0 rfl k rfl hk (by decide) dX6_canDo_5 ?_
    rw [ej]
    refine lv_istore_n (lv' := [(2, .int (nI t9)), (0, .ref (μ 0)), (1, .int (nI k))]) hx hb dX6_canDo_6 rfl hl (by decide) rfl (fun ls hl => ?_)
    refine lv_aload_n hx hb dX6_canDo_7 rfl (lv_at hl 1 rfl) ?_
    refine dp_get hx hb hts (dp_hin 51 rfl) hown hK hM.1 rfl 13 (by decide) (hts (.fieldLink RX6 28 "DroopBoardModel" "letter" "[I") (List.mem_of_getElem? (i := 2) rfl)) rfl dX6_canDo_8 ?_
    refine lv_iload_n hx hb dX6_canDo_11 rfl (lv_at hl 2 rfl) ?_
    refine dp_iald hx hb hK hM.2.2.2.2.2.2.2.1 0 rfl k rfl hk (by decide) dX6_canDo_12 ?_
    rw [h1]
    refine lv_lookup (off := 94) (tgt := 107) hx hb dX6_canDo_13 (by decide) (by decide) (by decide) ?_
    refine lv_iconst (v := 1) hx hb dX6_canDo_107 (by decide) ?_
    exact W.zret (ty := .boolean) hx hb hr rfl (fun t ht hW => ⟨⟨1, s.heap, rfl, ⟨rfl, by rw [aco_t ht9]⟩, ht⟩, hS.F ht⟩) hS.2.2 dX6_canDo_108

set_option maxHeartbeats 600000 in
set_option maxRecDepth 100000 in
theorem c_X6_doOrder (l : Launch) (D : va_G) (G : Nat → ClassId) (μ : Nat → Nat) (R S N E P B L1 L2 L3 : Nat → Int32) (sm kp th la ln sp od : Int32) (hs : Int64) (k : Nat) (H : Heap) (hμ : inj 10 μ) (hM : MO D G μ R S N E P B L1 L2 L3 sm kp th la ln sp od hs H) (hk : k < 24) (hg : gd R) (hn : onum (L1 k) (L2 k) (L3 k)) (hne : ¬ (aco R (L1 k) (L2 k) (L3 k)).1 = 0) : Met l yX6_doOrder wsX6_doOrder ({ frames := 8, cells := 0, slots := 0, locals := 177 } : Room) (va_Pc [.ref (μ 0), .int (nI k)] (CX D G H)) (QI (A6 μ) (fun r h => MP D G μ ((aco R (L1 k) (L2 k) (L3 k)).2) S N E B L1 L2 L3 sm kp th ln sp od hs h)) 0 0 (A6 μ) := by
  refine Met.ofW (cc := cX6_doOrder) (maxL := 2) (ret := (some .int)) (by decide) rfl ?_
  intro p e s m args below meth c s₁ B0 hml hv
  obtain ⟨rfl, rfl, hK, hN⟩ := hv
  have hx := B0.exec
  have hb := B0.bytes
  have hr := B0.returns
  have hts := atoms_spec (ws := wsX6_doOrder) B0.pre
  have hown : s.vm.findClass RX6 = some m.cls := findClass_of_methodNamed B0.named
  have hlocks := B0.notSynchronized
  have hF : CallFix p m c cX6_doOrder 2 s ([.ref (μ 0), .int (nI k)] : List Value).toArray wsX6_doOrder RX6 := ⟨hx, hb, hml, hown, hts⟩
  have hS : va_S (A6 μ) s.heap s.heap [] := va_S.rf
  have hl := lv_entry ([.ref (μ 0), .int (nI k)]) (n := 2) (Nat.le_of_ble_eq_true rfl)
  rw [lg_entry_eq]
  generalize (lg_sl ([.ref (μ 0), .int (nI k)]) ++ List.replicate (2 - (lg_sl ([.ref (μ 0), .int (nI k)])).length) Slot.unset).toArray = ls at hl ⊢
  have hl : lv_has ls 2 [(0, .ref (μ 0)), (1, .int (nI k))] := hl
  have hwz := gd_wz hg
  obtain ⟨hl9, hn1, hn2, hn3, hn4⟩ := hn
  rcases hl9 with h1 | h1 | h1 | h1 | h1 | h1 | h1
  · obtain ⟨j, hj4, hj3, ej⟩ := hn2 (by rw [h1]; decide)
    have hj3 := hj3 (by rw [h1]; decide)
    have hx9 := hn4 h1
    rw [h1, ej] at hne
    rw [h1, ej]
    refine lv_aload_n hx hb dX6_doOrder_0 rfl (lv_at hl 0 rfl) ?_
    refine dp_get hx hb hts (dp_hin 96 rfl) hown hK hM.1 rfl 13 (by decide) (hts (.fieldLink RX6 28 "DroopBoardModel" "letter" "[I") (List.mem_of_getElem? (i := 1) rfl)) rfl dX6_doOrder_1 ?_
    refine lv_iload_n hx hb dX6_doOrder_4 rfl (lv_at hl 1 rfl) ?_
    refine dp_iald hx hb hK hM.2.2.2.2.2.2.2.1 0 rfl k rfl hk (by decide) dX6_doOrder_5 ?_
    rw [h1]
    refine lv_tableIn (off := 82) (tgt := 88) hx hb dX6_doOrder_6 (by decide) (by decide) (by rfl) (by decide) ?_
    refine lv_aload_n hx hb dX6_doOrder_88 rfl (lv_at hl 0 rfl) ?_
    refine lv_aload_n hx hb dX6_doOrder_89 rfl (lv_at hl 0 rfl) ?_
    refine dp_get hx hb hts (dp_hin 96 rfl) hown hK hM.1 rfl 14 (by decide) (hts (.fieldLink RX6 31 "DroopBoardModel" "first" "[I") (List.mem_of_getElem? (i := 2) rfl)) rfl dX6_doOrder_90 ?_
    refine lv_iload_n hx hb dX6_doOrder_93 rfl (lv_at hl 1 rfl) ?_
    refine dp_iald hx hb hK hM.2.2.2.2.2.2.2.2.1 0 rfl k rfl hk (by decide) dX6_doOrder_94 ?_
    rw [ej]
    refine lv_aload_n hx hb dX6_doOrder_95 rfl (lv_at hl 0 rfl) ?_
    refine dp_get hx hb hts (dp_hin 96 rfl) hown hK hM.1 rfl 15 (by decide) (hts (.fieldLink RX6 34 "DroopBoardModel" "second" "[I") (List.mem_of_getElem? (i := 3) rfl)) rfl dX6_doOrder_96 ?_
    refine lv_iload_n hx hb dX6_doOrder_99 rfl (lv_at hl 1 rfl) ?_
    refine dp_iald hx hb hK hM.2.2.2.2.2.2.2.2.2 0 rfl k rfl hk (by decide) dX6_doOrder_100 ?_
    refine dp_Vi hF hK hN (c_X6_speedNow l D G μ R S N E P B L1 L2 L3 sm kp th la ln sp od hs j (L3 k) _ hμ hM hj3) (cwV 2 hts gX6_doOrder_X6_speedNow rfl rfl rfl (by decide +kernel) ⟨Nat.le_of_ble_eq_true rfl, Nat.le_of_ble_eq_true rfl⟩) (dp_recv hK hM.1 rfl) hS (fun q hq => hq) [] rfl rfl hl.1 (Nat.le_of_ble_eq_true rfl) dX6_doOrder_101 ⟨Nat.le_of_ble_eq_true rfl, Nat.le_of_ble_eq_true rfl⟩ (fun rH1 H1 locs hp hzH1 hkH1 hS => ?_)
    obtain ⟨rfl, hM⟩ := hp
    have e9 : (aco R 115 (nI j) (L3 k)).2 = usp R j (L3 k) := by simp [aco_s hj4]
    exact W.iret hx hb hr (fun t ht hW => ⟨⟨R (10 + 10 * j), H1, rfl, by rw [e9]; exact ⟨_, _, hM⟩, ht⟩, hS.F ht⟩) hS.2.2 dX6_doOrder_104
  · obtain ⟨j, hj4, hj3, ej⟩ := hn2 (by rw [h1]; decide)
    have hj3 := hj3 (by rw [h1]; decide)
    rw [h1, ej] at hne
    rw [h1, ej]
    have hc9 : R (11 + 10 * j) = 0 := Classical.byContradiction (fun q => hne (by simp [aco_r hj4, q]))
    refine lv_aload_n hx hb dX6_doOrder_0 rfl (lv_at hl 0 rfl) ?_
    refine dp_get hx hb hts (dp_hin 96 rfl) hown hK hM.1 rfl 13 (by decide) (hts (.fieldLink RX6 28 "DroopBoardModel" "letter" "[I") (List.mem_of_getElem? (i := 1) rfl)) rfl dX6_doOrder_1 ?_
    refine lv_iload_n hx hb dX6_doOrder_4 rfl (lv_at hl 1 rfl) ?_
    refine dp_iald hx hb hK hM.2.2.2.2.2.2.2.1 0 rfl k rfl hk (by decide) dX6_doOrder_5 ?_
    rw [h1]
    refine lv_tableIn (off := 99) (tgt := 105) hx hb dX6_doOrder_6 (by decide) (by decide) (by rfl) (by decide) ?_
    refine lv_aload_n hx hb dX6_doOrder_105 rfl (lv_at hl 0 rfl) ?_
    refine lv_aload_n hx hb dX6_doOrder_106 rfl (lv_at hl 0 rfl) ?_
    refine dp_get hx hb hts (dp_hin 96 rfl) hown hK hM.1 rfl 14 (by decide) (hts (.fieldLink RX6 31 "DroopBoardModel" "first" "[I") (List.mem_of_getElem? (i := 2) rfl)) rfl dX6_doOrder_107 ?_
    refine lv_iload_n hx hb dX6_doOrder_110 rfl (lv_at hl 1 rfl) ?_
    refine dp_iald hx hb hK hM.2.2.2.2.2.2.2.2.1 0 rfl k rfl hk (by decide) dX6_doOrder_111 ?_
    rw [ej]
    refine dp_Vi hF hK hN (c_X6_runNow l D G μ R S N E P B L1 L2 L3 sm kp th la ln sp od hs j _ hμ hM hj3) (cwV 1 hts gX6_doOrder_X6_runNow rfl rfl rfl (by decide +kernel) ⟨Nat.le_of_ble_eq_true rfl, Nat.le_of_ble_eq_true rfl⟩) (dp_recv hK hM.1 rfl) hS (fun q hq => hq) [] rfl rfl hl.1 (Nat.le_of_ble_eq_true rfl) dX6_doOrder_112 ⟨Nat.le_of_ble_eq_true rfl, Nat.le_of_ble_eq_true rfl⟩ (fun rH2 H2 locs hp hzH2 hkH2 hS => ?_)
    obtain ⟨rfl, hM⟩ := hp
    have e9 : (aco R 114 (nI j) (L3 k)).2 = rst (upd R (11 + 10 * j) 1) j := by simp [aco_r hj4, hc9]
    exact W.iret hx hb hr (fun t ht hW => ⟨⟨sm3 (rst (upd R (11 + 10 * j) 1) j) 11, H2, rfl, by rw [e9]; exact ⟨_, _, hM⟩, ht⟩, hS.F ht⟩) hS.2.2 dX6_doOrder_115
  · obtain ⟨j, hj4, hj3, ej⟩ := hn2 (by rw [h1]; decide)
    have hj3 := hj3 (by rw [h1]; decide)
    rw [h1, ej] at hne
    rw [h1, ej]
    have hc8 : ¬ R (11 + 10 * j) = 0 := fun q => hne (by simp [aco_h hj4, q])
    have hc9 : R (12 + 10 * j) = 0 := Classical.byContradiction (fun q => hne (by simp [aco_h hj4, hc8, q]))
    refine lv_aload_n hx hb dX6_doOrder_0 rfl (lv_at hl 0 rfl) ?_
    refine dp_get hx hb hts (dp_hin 96 rfl) hown hK hM.1 rfl 13 (by decide) (hts (.fieldLink RX6 28 "DroopBoardModel" "letter" "[I") (List.mem_of_getElem? (i := 1) rfl)) rfl dX6_doOrder_1 ?_
    refine lv_iload_n hx hb dX6_doOrder_4 rfl (lv_at hl 1 rfl) ?_
    refine dp_iald hx hb hK hM.2.2.2.2.2.2.2.1 0 rfl k rfl hk (by decide) dX6_doOrder_5 ?_
    rw [h1]
    refine lv_tableIn (off := 110) (tgt := 116) hx hb dX6_doOrder_6 (by decide) (by decide) (by rfl) (by decide) ?_
    refine lv_aload_n hx hb dX6_doOrder_116 rfl (lv_at hl 0 rfl) ?_
    refine lv_aload_n hx hb dX6_doOrder_117 rfl (lv_at hl 0 rfl) ?_
    refine dp_get hx hb hts (dp_hin 96 rfl) hown hK hM.1 rfl 14 (by decide) (hts (.fieldLink RX6 31 "DroopBoardModel" "first" "[I") (List.mem_of_getElem? (i := 2) rfl)) rfl dX6_doOrder_118 ?_
    refine lv_iload_n hx hb dX6_doOrder_121 rfl (lv_at hl 1 rfl) ?_
    refine dp_iald hx hb hK hM.2.2.2.2.2.2.2.2.1 0 rfl k rfl hk (by decide) dX6_doOrder_122 ?_
    rw [ej]
    refine dp_Vi hF hK hN (c_X6_haltNow l D G μ R S N E P B L1 L2 L3 sm kp th la ln sp od hs j _ hμ hM hj3) (cwV 1 hts gX6_doOrder_X6_haltNow rfl rfl rfl (by decide +kernel) ⟨Nat.le_of_ble_eq_true rfl, Nat.le_of_ble_eq_true rfl⟩) (dp_recv hK hM.1 rfl) hS (fun q hq => hq) [] rfl rfl hl.1 (Nat.le_of_ble_eq_true rfl) dX6_doOrder_123 ⟨Nat.le_of_ble_eq_true rfl, Nat.le_of_ble_eq_true rfl⟩ (fun rH3 H3 locs hp hzH3 hkH3 hS => ?_)
    obtain ⟨rfl, hM⟩ := hp
    have e9 : (aco R 104 (nI j) (L3 k)).2 = rst (upd R (11 + 10 * j) 0) j := by simp [aco_h hj4, hc8, hc9]
    exact W.iret hx hb hr (fun t ht hW => ⟨⟨sm3 (rst (upd R (11 + 10 * j) 0) j) 11, H3, rfl, by rw [e9]; exact ⟨_, _, hM⟩, ht⟩, hS.F ht⟩) hS.2.2 dX6_doOrder_126
  · obtain ⟨j, hj4, hj3, ej⟩ := hn2 (by rw [h1]; decide)
    have hj3 := hj3 (by rw [h1]; decide)
    rw [h1, ej] at hne
    rw [h1, ej]
    have hc9 : rsn R j = 0 := Classical.byContradiction (fun q => hne (by simp [aco_c hj4, q]))
    refine lv_aload_n hx hb dX6_doOrder_0 rfl (lv_at hl 0 rfl) ?_
    refine dp_get hx hb hts (dp_hin 96 rfl) hown hK hM.1 rfl 13 (by decide) (hts (.fieldLink RX6 28 "DroopBoardModel" "letter" "[I") (List.mem_of_getElem? (i := 1) rfl)) rfl dX6_doOrder_1 ?_
    refine lv_iload_n hx hb dX6_doOrder_4 rfl (lv_at hl 1 rfl) ?_
    refine dp_iald hx hb hK hM.2.2.2.2.2.2.2.1 0 rfl k rfl hk (by decide) dX6_doOrder_5 ?_
    rw [h1]
    refine lv_tableIn (off := 121) (tgt := 127) hx hb dX6_doOrder_6 (by decide) (by decide) (by rfl) (by decide) ?_
    refine lv_aload_n hx hb dX6_doOrder_127 rfl (lv_at hl 0 rfl) ?_
    refine lv_aload_n hx hb dX6_doOrder_128 rfl (lv_at hl 0 rfl) ?_
    refine dp_get hx hb hts (dp_hin 96 rfl) hown hK hM.1 rfl 14 (by decide) (hts (.fieldLink RX6 31 "DroopBoardModel" "first" "[I") (List.mem_of_getElem? (i := 2) rfl)) rfl dX6_doOrder_129 ?_
    refine lv_iload_n hx hb dX6_doOrder_132 rfl (lv_at hl 1 rfl) ?_
    refine dp_iald hx hb hK hM.2.2.2.2.2.2.2.2.1 0 rfl k rfl hk (by decide) dX6_doOrder_133 ?_
    rw [ej]
    refine lv_iconst (v := 1) hx hb dX6_doOrder_134 (by decide) ?_
    refine dp_Vi hF hK hN (c_X6_switchNow l D G μ R S N E P B L1 L2 L3 sm kp th la ln sp od hs j 1 _ hμ hM hj3 (gd_wz (gd_sw hg hj3 (Or.inr rfl) (Or.inr rfl)))) (cwV 2 hts gX6_doOrder_X6_switchNow rfl rfl rfl (by decide +kernel) ⟨Nat.le_of_ble_eq_true rfl, Nat.le_of_ble_eq_true rfl⟩) (dp_recv hK hM.1 rfl) hS (fun q hq => hq) [] rfl rfl hl.1 (Nat.le_of_ble_eq_true rfl) dX6_doOrder_135 ⟨Nat.le_of_ble_eq_true rfl, Nat.le_of_ble_eq_true rfl⟩ (fun rH4 H4 locs hp hzH4 hkH4 hS => ?_)
    obtain ⟨rfl, hM⟩ := hp
    have e9 : (aco R 99 (nI j) (L3 k)).2 = rst (upd R (12 + 10 * j) 1) j := by simp [aco_c hj4, hc9]
    exact W.iret hx hb hr (fun t ht hW => ⟨⟨fq (rst (upd R (12 + 10 * j) 1) j), H4, rfl, by rw [e9]; exact ⟨_, _, hM⟩, ht⟩, hS.F ht⟩) hS.2.2 dX6_doOrder_138
  · obtain ⟨j, hj4, hj3, ej⟩ := hn2 (by rw [h1]; decide)
    have hj3 := hj3 (by rw [h1]; decide)
    rw [h1, ej] at hne
    rw [h1, ej]
    have hc9 : ¬ R (12 + 10 * j) = 0 := fun q => hne (by simp [aco_o hj4, q])
    refine lv_aload_n hx hb dX6_doOrder_0 rfl (lv_at hl 0 rfl) ?_
    refine dp_get hx hb hts (dp_hin 96 rfl) hown hK hM.1 rfl 13 (by decide) (hts (.fieldLink RX6 28 "DroopBoardModel" "letter" "[I") (List.mem_of_getElem? (i := 1) rfl)) rfl dX6_doOrder_1 ?_
    refine lv_iload_n hx hb dX6_doOrder_4 rfl (lv_at hl 1 rfl) ?_
    refine dp_iald hx hb hK hM.2.2.2.2.2.2.2.1 0 rfl k rfl hk (by decide) dX6_doOrder_5 ?_
    rw [h1]
    refine lv_tableIn (off := 133) (tgt := 139) hx hb dX6_doOrder_6 (by decide) (by decide) (by rfl) (by decide) ?_
    refine lv_aload_n hx hb dX6_doOrder_139 rfl (lv_at hl 0 rfl) ?_
    refine lv_aload_n hx hb dX6_doOrder_140 rfl (lv_at hl 0 rfl) ?_
    refine dp_get hx hb hts (dp_hin 96 rfl) hown hK hM.1 rfl 14 (by decide) (hts (.fieldLink RX6 31 "DroopBoardModel" "first" "[I") (List.mem_of_getElem? (i := 2) rfl)) rfl dX6_doOrder_141 ?_
    refine lv_iload_n hx hb dX6_doOrder_144 rfl (lv_at hl 1 rfl) ?_
    refine dp_iald hx hb hK hM.2.2.2.2.2.2.2.2.1 0 rfl k rfl hk (by decide) dX6_doOrder_145 ?_
    rw [ej]
    refine lv_iconst (v := 0) hx hb dX6_doOrder_146 (by decide) ?_
    refine dp_Vi hF hK hN (c_X6_switchNow l D G μ R S N E P B L1 L2 L3 sm kp th la ln sp od hs j 0 _ hμ hM hj3 (gd_wz (gd_sw hg hj3 (Or.inr rfl) (Or.inl rfl)))) (cwV 2 hts gX6_doOrder_X6_switchNow rfl rfl rfl (by decide +kernel) ⟨Nat.le_of_ble_eq_true rfl, Nat.le_of_ble_eq_true rfl⟩) (dp_recv hK hM.1 rfl) hS (fun q hq => hq) [] rfl rfl hl.1 (Nat.le_of_ble_eq_true rfl) dX6_doOrder_147 ⟨Nat.le_of_ble_eq_true rfl, Nat.le_of_ble_eq_true rfl⟩ (fun rH5 H5 locs hp hzH5 hkH5 hS => ?_)
    obtain ⟨rfl, hM⟩ := hp
    have e9 : (aco R 111 (nI j) (L3 k)).2 = rst (upd R (12 + 10 * j) 0) j := by simp [aco_o hj4, hc9]
    exact W.iret hx hb hr (fun t ht hW => ⟨⟨fq (rst (upd R (12 + 10 * j) 0) j), H5, rfl, by rw [e9]; exact ⟨_, _, hM⟩, ht⟩, hS.F ht⟩) hS.2.2 dX6_doOrder_150
  · obtain ⟨j, hj4, hj3, ej⟩ := hn2 (by rw [h1]; decide)
    have hx9 := hn3 h1
    rw [h1, ej] at hne
    rw [h1, ej]
    refine lv_aload_n hx hb dX6_doOrder_0 rfl (lv_at hl 0 rfl) ?_
    refine dp_get hx hb hts (dp_hin 96 rfl) hown hK hM.1 rfl 13 (by decide) (hts (.fieldLink RX6 28 "DroopBoardModel" "letter" "[I") (List.mem_of_getElem? (i := 1) rfl)) rfl dX6_doOrder_1 ?_
    refine lv_iload_n hx hb dX6_doOrder_4 rfl (lv_at hl 1 rfl) ?_
    refine dp_iald hx hb hK hM.2.2.2.2.2.2.2.1 0 rfl k rfl hk (by decide) dX6_doOrder_5 ?_
    rw [h1]
    refine lv_tableIn (off := 145) (tgt := 151) hx hb dX6_doOrder_6 (by decide) (by decide) (by rfl) (by decide) ?_
    refine lv_aload_n hx hb dX6_doOrder_151 rfl (lv_at hl 0 rfl) ?_
    refine lv_aload_n hx hb dX6_doOrder_152 rfl (lv_at hl 0 rfl) ?_
    refine dp_get hx hb hts (dp_hin 96 rfl) hown hK hM.1 rfl 14 (by decide) (hts (.fieldLink RX6 31 "DroopBoardModel" "first" "[I") (List.mem_of_getElem? (i := 2) rfl)) rfl dX6_doOrder_153 ?_
    refine lv_iload_n hx hb dX6_doOrder_156 rfl (lv_at hl 1 rfl) ?_
    refine dp_iald hx hb hK hM.2.2.2.2.2.2.2.2.1 0 rfl k rfl hk (by decide) dX6_doOrder_157 ?_
    rw [ej]
    refine lv_aload_n hx hb dX6_doOrder_158 rfl (lv_at hl 0 rfl) ?_
    refine dp_get hx hb hts (dp_hin 96 rfl) hown hK hM.1 rfl 15 (by decide) (hts (.fieldLink RX6 34 "DroopBoardModel" "second" "[I") (List.mem_of_getElem? (i := 3) rfl)) rfl dX6_doOrder_159 ?_
    refine lv_iload_n hx hb dX6_doOrder_162 rfl (lv_at hl 1 rfl) ?_
    refine dp_iald hx hb hK hM.2.2.2.2.2.2.2.2.2 0 rfl k rfl hk (by decide) dX6_doOrder_163 ?_
    refine dp_Vi hF hK hN (c_X6_feederNow l D G μ R S N E P B L1 L2 L3 sm kp th la ln sp od hs j (L3 k) _ hμ hM hj4) (cwV 2 hts gX6_doOrder_X6_feederNow rfl rfl rfl (by decide +kernel) ⟨Nat.le_of_ble_eq_true rfl, Nat.le_of_ble_eq_true rfl⟩) (dp_recv hK hM.1 rfl) hS (fun q hq => hq) [] rfl rfl hl.1 (Nat.le_of_ble_eq_true rfl) dX6_doOrder_164 ⟨Nat.le_of_ble_eq_true rfl, Nat.le_of_ble_eq_true rfl⟩ (fun rH6 H6 locs hp hzH6 hkH6 hS => ?_)
    obtain ⟨rfl, hM⟩ := hp
    have e9 : (aco R 102 (nI j) (L3 k)).2 = upd R (39 + 3 * j) (L3 k) := by simp [aco_f hj4]
    exact W.iret hx hb hr (fun t ht hW => ⟨⟨R (39 + 3 * j), H6, rfl, by rw [e9]; exact ⟨_, _, hM⟩, ht⟩, hS.F ht⟩) hS.2.2 dX6_doOrder_167
  · obtain ⟨t9, ht9, ej⟩ := hn1 h1
    rw [h1, ej] at hne
    rw [h1, ej]
    refine lv_aload_n hx hb dX6_doOrder_0 rfl (lv_at hl 0 rfl) ?_
    refine dp_get hx hb hts (dp_hin 96 rfl) hown hK hM.1 rfl 13 (by decide) (hts (.fieldLink RX6 28 "DroopBoardModel" "letter" "[I") (List.mem_of_getElem? (i := 1) rfl)) rfl dX6_doOrder_1 ?_
    refine lv_iload_n hx hb dX6_doOrder_4 rfl (lv_at hl 1 rfl) ?_
    refine dp_iald hx hb hK hM.2.2.2.2.2.2.2.1 0 rfl k rfl hk (by decide) dX6_doOrder_5 ?_
    rw [h1]
    refine lv_tableOut (tgt := 168) hx hb dX6_doOrder_6 (by decide) (by decide) ?_
    refine lv_aload_n hx hb dX6_doOrder_168 rfl (lv_at hl 0 rfl) ?_
    refine lv_aload_n hx hb dX6_doOrder_169 rfl (lv_at hl 0 rfl) ?_
    refine dp_get hx hb hts (dp_hin 96 rfl) hown hK hM.1 rfl 14 (by decide) (hts (.fieldLink RX6 31 "DroopBoardModel" "first" "[I") (List.mem_of_getElem? (i := 2) rfl)) rfl dX6_doOrder_170 ?_
    refine lv_iload_n hx hb dX6_doOrder_173 rfl (lv_at hl 1 rfl) ?_
    refine dp_iald hx hb hK hM.2.2.2.2.2.2.2.2.1 0 rfl k rfl hk (by decide) dX6_doOrder_174 ?_
    rw [ej]
    refine dp_Vi hF hK hN (c_X6_passNow l D G μ R S N E P B L1 L2 L3 sm kp th la ln sp od hs t9 _ hμ hM (by omega) (fun i _ => gd_htk hg i)) (cwV 1 hts gX6_doOrder_X6_passNow rfl rfl rfl (by decide +kernel) ⟨Nat.le_of_ble_eq_true rfl, Nat.le_of_ble_eq_true rfl⟩) (dp_recv hK hM.1 rfl) hS (fun q hq => hq) [] rfl rfl hl.1 (Nat.le_of_ble_eq_true rfl) dX6_doOrder_175 ⟨Nat.le_of_ble_eq_true rfl, Nat.le_of_ble_eq_true rfl⟩ (fun rH7 H7 locs hp hzH7 hkH7 hS => ?_)
    obtain ⟨rfl, P, la, hM⟩ := hp
    have e9 : (aco R 116 (nI t9) (L3 k)).2 = pt R t9 := by simp [aco_t ht9]
    exact W.iret hx hb hr (fun t ht hW => ⟨⟨ptn R t9, H7, rfl, by rw [e9]; exact ⟨_, _, hM⟩, ht⟩, hS.F ht⟩) hS.2.2 dX6_doOrder_178

set_option maxHeartbeats 600000 in
set_option maxRecDepth 100000 in
theorem c_X6_obey (l : Launch) (D : va_G) (G : Nat → ClassId) (μ : Nat → Nat) (R S N E P B L1 L2 L3 : Nat → Int32) (sm kp th la ln sp od : Int32) (hs : Int64) (n len : Nat) (H : Heap) (hμ : inj 10 μ) (hM : MO D G μ R S N E P B L1 L2 L3 sm kp th la ln sp od hs H) (hg : gd R) (hsm : sm = nI n) (hn6 : n ≤ 6) (hln : ln = nI len) (hl6 : len ≤ 60) : Met l yX6_obey wsX6_obey ({ frames := 9, cells := 0, slots := 0, locals := 198 } : Room) (va_Pc [.ref (μ 0)] (CX D G H)) (QI (A6 μ) (fun r h => (cObey B len = 0 ∧ nI (oby B len 60 0 0 R).1 = r ∧ MM D G μ ((oby B len 60 0 0 R).2) (msv S R n) N B (nI (svn n)) kp 0 (nI 0) h) ∨ (¬ cObey B len = 0 ∧ MM D G μ R S N B sm kp (cObey B len) ln h))) 0 0 (A6 μ) := by
  refine Met.ofW (cc := cX6_obey) (maxL := 3) (ret := (some .int)) (by decide) rfl ?_
  intro p e s m args below meth c s₁ B0 hml hv
  obtain ⟨rfl, rfl, hK, hN⟩ := hv
  have hx := B0.exec
  have hb := B0.bytes
  have hr := B0.returns
  have hts := atoms_spec (ws := wsX6_obey) B0.pre
  have hown : s.vm.findClass RX6 = some m.cls := findClass_of_methodNamed B0.named
  have hlocks := B0.notSynchronized
  have hF : CallFix p m c cX6_obey 3 s ([.ref (μ 0)] : List Value).toArray wsX6_obey RX6 := ⟨hx, hb, hml, hown, hts⟩
  have hS : va_S (A6 μ) s.heap s.heap [] := va_S.rf
  have hl := lv_entry ([.ref (μ 0)]) (n := 3) (Nat.le_of_ble_eq_true rfl)
  rw [lg_entry_eq]
  generalize (lg_sl ([.ref (μ 0)]) ++ List.replicate (3 - (lg_sl ([.ref (μ 0)])).length) Slot.unset).toArray = ls at hl ⊢
  have hl : lv_has ls 3 [(0, .ref (μ 0))] := hl
  refine lv_aload_n hx hb dX6_obey_0 rfl (lv_at hl 0 rfl) ?_
  refine lv_iconst (v := 0) hx hb dX6_obey_1 (by decide) ?_
  refine dp_put (A := A6 μ) (v := .int 0) hx hb hts (dp_hin 164 rfl) tyX6 tyX6_ok nmX6 hown hK hM.1 (⟨0, by decide, rfl⟩ : A6 μ (μ 0)) hS rfl 6 (by decide) (hts (.fieldLink RX6 41 "DroopBoardModel" "thrown" "I") (List.mem_of_getElem? (i := 1) rfl)) rfl rfl rfl (Nat.le_of_ble_eq_true rfl) dX6_obey_2 (fun H1 locs hH1 hzH1 hkH1 hS => ?_)
  have hM := hM.o (sm' := sm) (kp' := kp) (th' := 0) (la' := la) (ln' := ln) (sp' := sp) (od' := od) (hs' := hs) hμ hH1 hkH1
  refine lv_aload_n hx hb dX6_obey_5 rfl (lv_at hl 0 rfl) ?_
  refine dp_Vi hF hK hN (c_X6_areOrders l D G μ R S N E P B L1 L2 L3 sm kp 0 la ln sp od hs len _ hμ hM hln hl6) (cwV 0 hts gX6_obey_X6_areOrders rfl rfl rfl (by decide +kernel) ⟨Nat.le_of_ble_eq_true rfl, Nat.le_of_ble_eq_true rfl⟩) (dp_recv hK hM.1 rfl) hS (fun q hq => hq) [] rfl rfl hl.1 (Nat.le_of_ble_eq_true rfl) dX6_obey_6 ⟨Nat.le_of_ble_eq_true rfl, Nat.le_of_ble_eq_true rfl⟩ (fun rH2 H2 locs hp hzH2 hkH2 hS => ?_)
  rcases hp with ⟨rfl, o, sq, X1, X2, X3, sp2, hc, hso, hend, ho20, hM⟩ | ⟨rfl, p2, X1, X2, X3, od2, hbad, hp2, hM⟩
  · refine lv_if_ne (tgt := 18) hx hb dX6_obey_9 (by decide) (fun c1 => ?_) (fun c1 => absurd c1 (by decide))
    refine lv_aload_n hx hb dX6_obey_18 rfl (lv_at hl 0 rfl) ?_
    refine dp_Vv hF hK hN (c_X6_save l D G μ R S N E P B X1 X2 X3 sm kp 0 la (nI len) sp2 (nI o) hs n _ hμ hM hsm hn6) (cwV 0 hts gX6_obey_X6_save rfl rfl rfl (by decide +kernel) ⟨Nat.le_of_ble_eq_true rfl, Nat.le_of_ble_eq_true rfl⟩) (dp_recv hK hM.1 rfl) hS (fun q hq => hq) [] rfl rfl hl.1 (Nat.le_of_ble_eq_true rfl) dX6_obey_19 ⟨Nat.le_of_ble_eq_true rfl, Nat.le_of_ble_eq_true rfl⟩ (fun H3 locs hp hzH3 hkH3 hS => ?_)
    have hM := hp
    refine lv_iconst (v := 0) hx hb dX6_obey_22 (by decide) ?_
    refine lv_istore_n (lv' := [(1, .int 0), (0, .ref (μ 0))]) hx hb dX6_obey_23 rfl hl (by decide) rfl (fun ls hl => ?_)
    have loop24 : ∀ (m9 : Nat) (i : Nat) (R9 : Nat → Int32) (Hh : Heap) (_ : i + m9 = o) (_ : oby B len 60 0 0 R = oby B len (60 - i) (sq i) i R9) (_ : gd R9) (_ : MP D G μ R9 (msv S R n) N E B X1 X2 X3 (nI (svn n)) kp 0 (nI len) sp2 (nI o) hs Hh) (locs : List Loc) (_ : va_S (A6 μ) s.heap Hh locs) (ls : Array Slot) (_ : lv_has ls 3 [(0, .ref (μ 0)), (1, .int (nI i))]), W p l e (headSpec wsX6_obey ({ frames := 9, cells := 0, slots := 0, locals := 198 } : Room)).room s m ([.ref (μ 0)] : List Value).toArray below meth c Hh locs 0 0 (MQ below (QI (A6 μ) (fun r h => (cObey B len = 0 ∧ nI (oby B len 60 0 0 R).1 = r ∧ MM D G μ ((oby B len 60 0 0 R).2) (msv S R n) N B (nI (svn n)) kp 0 (nI 0) h) ∨ (¬ cObey B len = 0 ∧ MM D G μ R S N B sm kp (cObey B len) ln h))) ([.ref (μ 0)] : List Value).toArray s 0 0 (A6 μ)) (F0 m 24 ls []) := by
      intro m9
      induction m9 with
      | zero =>
        intro i R9 Hh hin hob hg9 hMP locs hS ls hl
        obtain ⟨P, la, hM⟩ := hMP
        refine lv_iload_n hx hb dX6_obey_24 rfl (lv_at hl 1 rfl) ?_
        refine lv_aload_n hx hb dX6_obey_25 rfl (lv_at hl 0 rfl) ?_
        refine dp_get hx hb hts (dp_hin 164 rfl) hown hK hM.1 rfl 12 (by decide) (hts (.fieldLink RX6 165 "DroopBoardModel" "orders" "I") (List.mem_of_getElem? (i := 2) rfl)) rfl dX6_obey_26 ?_
        refine lv_icmp_ge (tgt := 52) hx hb dX6_obey_29 (by decide) (fun c2 => ?_) (fun c2 => absurd (nI_le (a := o) (b := i) (by omega) (by omega)) c2)
        refine lv_aload_n hx hb dX6_obey_52 rfl (lv_at hl 0 rfl) ?_
        refine lv_iconst (v := 0) hx hb dX6_obey_53 (by decide) ?_
        refine dp_put (A := A6 μ) (v := .int 0) hx hb hts (dp_hin 164 rfl) tyX6 tyX6_ok nmX6 hown hK hM.1 (⟨0, by decide, rfl⟩ : A6 μ (μ 0)) hS rfl 10 (by decide) (hts (.fieldLink RX6 153 "DroopBoardModel" "length" "I") (List.mem_of_getElem? (i := 3) rfl)) rfl rfl rfl (Nat.le_of_ble_eq_true rfl) dX6_obey_54 (fun H4 locs hH4 hzH4 hkH4 hS => ?_)
        have hM := hM.o (sm' := (nI (svn n))) (kp' := kp) (th' := 0) (la' := la) (ln' := 0) (sp' := sp2) (od' := (nI o)) (hs' := hs) hμ hH4 hkH4
        refine lv_iload_n hx hb dX6_obey_57 rfl (lv_at hl 1 rfl) ?_
        have e9 : oby B len 60 0 0 R = (i, R9) := by rw [hob]; exact oby_stop (by rw [show i = o by omega, hso]; omega)
        exact W.iret hx hb hr (fun t ht hW => ⟨⟨nI i, H4, rfl, Or.inl ⟨(end_fwr hend).2, by rw [e9], by rw [e9]; exact MM.of hM⟩, ht⟩, hS.F ht⟩) hS.2.2 dX6_obey_58
      | succ m9 ih24 =>
        intro i R9 Hh hin hob hg9 hMP locs hS ls hl
        obtain ⟨P, la, hM⟩ := hMP
        refine lv_iload_n hx hb dX6_obey_24 rfl (lv_at hl 1 rfl) ?_
        refine lv_aload_n hx hb dX6_obey_25 rfl (lv_at hl 0 rfl) ?_
        refine dp_get hx hb hts (dp_hin 164 rfl) hown hK hM.1 rfl 12 (by decide) (hts (.fieldLink RX6 165 "DroopBoardModel" "orders" "I") (List.mem_of_getElem? (i := 2) rfl)) rfl dX6_obey_26 ?_
        refine lv_icmp_ge (tgt := 52) hx hb dX6_obey_29 (by decide) (fun c3 => absurd c3 (nI_ge (a := i) (b := o) (by omega) (by omega))) (fun c3 => ?_)
        refine lv_aload_n hx hb dX6_obey_32 rfl (lv_at hl 0 rfl) ?_
        refine lv_iload_n hx hb dX6_obey_33 rfl (lv_at hl 1 rfl) ?_
        refine dp_Vi hF hK hN (c_X6_canDo l D G μ R9 (msv S R n) N E P B X1 X2 X3 (nI (svn n)) kp 0 la (nI len) sp2 (nI o) hs i _ hμ hM (by omega) hg9 (ord_num (hc.2 i (by omega)).1)) (cwV 1 hts gX6_obey_X6_canDo rfl rfl rfl (by decide +kernel) ⟨Nat.le_of_ble_eq_true rfl, Nat.le_of_ble_eq_true rfl⟩) (dp_recv hK hM.1 rfl) hS nA_i [] rfl rfl hl.1 (Nat.le_of_ble_eq_true rfl) dX6_obey_34 ⟨Nat.le_of_ble_eq_true rfl, Nat.le_of_ble_eq_true rfl⟩ (fun rH5 H5 locs hp hzH5 hkH5 hS => ?_)
        obtain ⟨rfl, rfl⟩ := hp
        refine lv_if_eq (tgt := 52) hx hb dX6_obey_37 (by decide) (fun c4 => ?_) (fun c4 => ?_)
        · refine lv_aload_n hx hb dX6_obey_52 rfl (lv_at hl 0 rfl) ?_
          refine lv_iconst (v := 0) hx hb dX6_obey_53 (by decide) ?_
          refine dp_put (A := A6 μ) (v := .int 0) hx hb hts (dp_hin 164 rfl) tyX6 tyX6_ok nmX6 hown hK hM.1 (⟨0, by decide, rfl⟩ : A6 μ (μ 0)) hS rfl 10 (by decide) (hts (.fieldLink RX6 153 "DroopBoardModel" "length" "I") (List.mem_of_getElem? (i := 3) rfl)) rfl rfl rfl (Nat.le_of_ble_eq_true rfl) dX6_obey_54 (fun H6 locs hH6 hzH6 hkH6 hS => ?_)
          have hM := hM.o (sm' := (nI (svn n))) (kp' := kp) (th' := 0) (la' := la) (ln' := 0) (sp' := sp2) (od' := (nI o)) (hs' := hs) hμ hH6 hkH6
          refine lv_iload_n hx hb dX6_obey_57 rfl (lv_at hl 1 rfl) ?_
          have e9 : oby B len 60 0 0 R = (i, R9) := by rw [hob]; exact oby_0 hc (by omega) hso ho20 c4
          exact W.iret hx hb hr (fun t ht hW => ⟨⟨nI i, H6, rfl, Or.inl ⟨(end_fwr hend).2, by rw [e9], by rw [e9]; exact MM.of hM⟩, ht⟩, hS.F ht⟩) hS.2.2 dX6_obey_58
        refine lv_aload_n hx hb dX6_obey_40 rfl (lv_at hl 0 rfl) ?_
        refine lv_iload_n hx hb dX6_obey_41 rfl (lv_at hl 1 rfl) ?_
        refine dp_Vi hF hK hN (c_X6_doOrder l D G μ R9 (msv S R n) N E P B X1 X2 X3 (nI (svn n)) kp 0 la (nI len) sp2 (nI o) hs i _ hμ hM (by omega) hg9 (ord_num (hc.2 i (by omega)).1) c4) (cwV 1 hts gX6_obey_X6_doOrder rfl rfl rfl (by decide +kernel) ⟨Nat.le_of_ble_eq_true rfl, Nat.le_of_ble_eq_true rfl⟩) (dp_recv hK hM.1 rfl) hS (fun q hq => hq) [] rfl rfl hl.1 (Nat.le_of_ble_eq_true rfl) dX6_obey_42 ⟨Nat.le_of_ble_eq_true rfl, Nat.le_of_ble_eq_true rfl⟩ (fun rH7 H7 locs hp hzH7 hkH7 hS => ?_)
        obtain ⟨P, la, hM⟩ := hp
        refine lv_istore_n (lv' := [(2, .int rH7), (0, .ref (μ 0)), (1, .int (nI i))]) hx hb dX6_obey_45 rfl hl (by decide) rfl (fun ls hl => ?_)
        refine lv_iinc (v := nI (i + 1)) (lv' := [(1, .int (nI (i + 1))), (2, .int rH7), (0, .ref (μ 0))]) hx hb dX6_obey_46 hl (k := 2) rfl (nI_1 i) (by decide) rfl (fun ls hl => ?_)
        refine lv_goto (tgt := 24) hx hb dX6_obey_49 (by decide) ?_
        exact ih24 (i + 1) ((aco R9 (X1 i) (X2 i) (X3 i)).2) H7 (by omega) (by rw [hob]; exact oby_1 hc (by omega) hso ho20 c4) (gd_aco hg9 (ord_num (hc.2 i (by omega)).1)) ⟨_, _, hM⟩ _ hS _ (lv_sub hl [2, 0] rfl)
    exact loop24 o 0 R H3 (by omega) (by rw [hc.1]) hg ⟨_, _, hM⟩ _ hS _ (lv_sub hl [1, 0] rfl)
  · refine lv_if_ne (tgt := 18) hx hb dX6_obey_9 (by decide) (fun c5 => absurd c5 (by decide)) (fun c5 => ?_)
    refine lv_aload_n hx hb dX6_obey_12 rfl (lv_at hl 0 rfl) ?_
    refine lv_iconst (v := 1) hx hb dX6_obey_13 (by decide) ?_
    refine dp_Vi hF hK hN (c_X6_fails l D G μ R S N E P B X1 X2 X3 sm kp 0 la (nI len) (nI p2) od2 hs 1 _ hμ hM ) (cwV 1 hts gX6_obey_X6_fails rfl rfl rfl (by decide +kernel) ⟨Nat.le_of_ble_eq_true rfl, Nat.le_of_ble_eq_true rfl⟩) (dp_recv hK hM.1 rfl) hS (fun q hq => hq) [] rfl rfl hl.1 (Nat.le_of_ble_eq_true rfl) dX6_obey_14 ⟨Nat.le_of_ble_eq_true rfl, Nat.le_of_ble_eq_true rfl⟩ (fun rH8 H8 locs hp hzH8 hkH8 hS => ?_)
    obtain ⟨rfl, hM⟩ := hp
    exact W.iret hx hb hr (fun t ht hW => ⟨⟨0, H8, rfl, Or.inr ⟨by rw [(bad_fwr hbad).2]; decide, by rw [(bad_fwr hbad).2, hln]; exact MM.of hM⟩, ht⟩, hS.F ht⟩) hS.2.2 dX6_obey_17

set_option maxHeartbeats 600000 in
set_option maxRecDepth 100000 in
theorem c_X6_build (l : Launch) (D : va_G) (G : Nat → ClassId) (μ : Nat → Nat) (R S N E P B L1 L2 L3 : Nat → Int32) (sm kp th la ln sp od : Int32) (hs : Int64) (n : Nat) (i rt dr : Int32) (H : Heap) (hμ : inj 10 μ) (hM : MO D G μ R S N E P B L1 L2 L3 sm kp th la ln sp od hs H) (hg : gd R) (hsm : sm = nI n) (hn6 : n ≤ 6) : Met l yX6_build wsX6_build ({ frames := 2, cells := 0, slots := 0, locals := 42 } : Room) (va_Pc [.ref (μ 0), .int i, .int rt, .int dr] (CX D G H)) (QI (A6 μ) (fun r h => (cBuild R i rt dr = 0 ∧ R (8 + 10 * ix i) = r ∧ MM D G μ (upd (upd R (8 + 10 * ix i) rt) (9 + 10 * ix i) dr) (msv S R n) N B (nI (svn n)) kp 0 ln h) ∨ (¬ cBuild R i rt dr = 0 ∧ MM D G μ R S N B sm kp (cBuild R i rt dr) ln h))) 0 0 (A6 μ) := by
  refine Met.ofW (cc := cX6_build) (maxL := 5) (ret := (some .int)) (by decide) rfl ?_
  intro p e s m args below meth c s₁ B0 hml hv
  obtain ⟨rfl, rfl, hK, hN⟩ := hv
  have hx := B0.exec
  have hb := B0.bytes
  have hr := B0.returns
  have hts := atoms_spec (ws := wsX6_build) B0.pre
  have hown : s.vm.findClass RX6 = some m.cls := findClass_of_methodNamed B0.named
  have hlocks := B0.notSynchronized
  have hF : CallFix p m c cX6_build 5 s ([.ref (μ 0), .int i, .int rt, .int dr] : List Value).toArray wsX6_build RX6 := ⟨hx, hb, hml, hown, hts⟩
  have hS : va_S (A6 μ) s.heap s.heap [] := va_S.rf
  have hl := lv_entry ([.ref (μ 0), .int i, .int rt, .int dr]) (n := 5) (Nat.le_of_ble_eq_true rfl)
  rw [lg_entry_eq]
  generalize (lg_sl ([.ref (μ 0), .int i, .int rt, .int dr]) ++ List.replicate (5 - (lg_sl ([.ref (μ 0), .int i, .int rt, .int dr])).length) Slot.unset).toArray = ls at hl ⊢
  have hl : lv_has ls 5 [(0, .ref (μ 0)), (1, .int i), (2, .int rt), (3, .int dr)] := hl
  have hwz := gd_wz hg
  have h5 := hg.2.2.2.1
  have h6 := hg.2.2.2.2
  refine lv_aload_n hx hb dX6_build_0 rfl (lv_at hl 0 rfl) ?_
  refine lv_iconst (v := 0) hx hb dX6_build_1 (by decide) ?_
  refine dp_put (A := A6 μ) (v := .int 0) hx hb hts (dp_hin 28 rfl) tyX6 tyX6_ok nmX6 hown hK hM.1 (⟨0, by decide, rfl⟩ : A6 μ (μ 0)) hS rfl 6 (by decide) (hts (.fieldLink RX6 41 "DroopBoardModel" "thrown" "I") (List.mem_of_getElem? (i := 1) rfl)) rfl rfl rfl (Nat.le_of_ble_eq_true rfl) dX6_build_2 (fun H1 locs hH1 hzH1 hkH1 hS => ?_)
  have hM := hM.o (sm' := sm) (kp' := kp) (th' := 0) (la' := la) (ln' := ln) (sp' := sp) (od' := od) (hs' := hs) hμ hH1 hkH1
  refine lv_iload_n hx hb dX6_build_5 rfl (lv_at hl 1 rfl) ?_
  refine dp_Si hF hK hN (c_X6_isSet l D G i _) (va_cwS 1 hts gX6_build_X6_isSet rfl rfl rfl (by decide +kernel) ⟨Nat.le_of_ble_eq_true rfl, Nat.le_of_ble_eq_true rfl⟩) hS nA_i [] rfl rfl hl.1 (Nat.le_of_ble_eq_true rfl) dX6_build_6 ⟨Nat.le_of_ble_eq_true rfl, Nat.le_of_ble_eq_true rfl⟩ (fun rH2 H2 locs hp hzH2 hkH2 hS => ?_)
  obtain ⟨rfl, rfl⟩ := hp
  refine lv_if_ne (tgt := 18) hx hb dX6_build_9 (by decide) (fun c1 => ?_) (fun c1 => ?_)
  · obtain ⟨j, hj, rfl⟩ := sS_ok c1
    have hix : ix (nI j) = j := ix_nI (by omega)
    refine lv_iload_n hx hb dX6_build_18 rfl (lv_at hl 2 rfl) ?_
    refine lv_bipush (v := 100) hx hb dX6_build_19 (by decide) ?_
    refine lv_sipush (v := 500) hx hb dX6_build_21 (by decide) ?_
    refine dp_Si hF hK hN (c_X6_in l D G rt 100 500 _) (va_cwS 3 hts gX6_build_X6_in rfl rfl rfl (by decide +kernel) ⟨Nat.le_of_ble_eq_true rfl, Nat.le_of_ble_eq_true rfl⟩) hS nA_i [] rfl rfl hl.1 (Nat.le_of_ble_eq_true rfl) dX6_build_24 ⟨Nat.le_of_ble_eq_true rfl, Nat.le_of_ble_eq_true rfl⟩ (fun rH3 H3 locs hp hzH3 hkH3 hS => ?_)
    obtain ⟨rfl, rfl⟩ := hp
    refine lv_if_eq (tgt := 42) hx hb dX6_build_27 (by decide) (fun c2 => ?_) (fun c2 => ?_)
    · refine lv_aload_n hx hb dX6_build_42 rfl (lv_at hl 0 rfl) ?_
      refine lv_iconst (v := 2) hx hb dX6_build_43 (by decide) ?_
      refine dp_Vi hF hK hN (c_X6_fails l D G μ R S N E P B L1 L2 L3 sm kp 0 la ln sp od hs 2 _ hμ hM ) (cwV 1 hts gX6_build_X6_fails rfl rfl rfl (by decide +kernel) ⟨Nat.le_of_ble_eq_true rfl, Nat.le_of_ble_eq_true rfl⟩) (dp_recv hK hM.1 rfl) hS (fun q hq => hq) [] rfl rfl hl.1 (Nat.le_of_ble_eq_true rfl) dX6_build_44 ⟨Nat.le_of_ble_eq_true rfl, Nat.le_of_ble_eq_true rfl⟩ (fun rH4 H4 locs hp hzH4 hkH4 hS => ?_)
      obtain ⟨rfl, hM⟩ := hp
      have e0 : cBuild R (nI j) rt dr = 2 := by rw [cBuild, nS_ok hj, sR_no c2]
      exact W.iret hx hb hr (fun t ht hW => ⟨⟨0, H4, rfl, Or.inr ⟨by rw [e0]; decide, by rw [e0]; exact MM.of hM⟩, ht⟩, hS.F ht⟩) hS.2.2 dX6_build_47
    refine lv_iload_n hx hb dX6_build_30 rfl (lv_at hl 3 rfl) ?_
    refine lv_bipush (v := 100) hx hb dX6_build_31 (by decide) ?_
    refine lv_sipush (v := 400) hx hb dX6_build_33 (by decide) ?_
    refine dp_Si hF hK hN (c_X6_in l D G dr 100 400 _) (va_cwS 3 hts gX6_build_X6_in rfl rfl rfl (by decide +kernel) ⟨Nat.le_of_ble_eq_true rfl, Nat.le_of_ble_eq_true rfl⟩) hS nA_i [] rfl rfl hl.1 (Nat.le_of_ble_eq_true rfl) dX6_build_36 ⟨Nat.le_of_ble_eq_true rfl, Nat.le_of_ble_eq_true rfl⟩ (fun rH5 H5 locs hp hzH5 hkH5 hS => ?_)
    obtain ⟨rfl, rfl⟩ := hp
    refine lv_if_ne (tgt := 48) hx hb dX6_build_39 (by decide) (fun c3 => ?_) (fun c3 => ?_)
    · refine lv_aload_n hx hb dX6_build_48 rfl (lv_at hl 0 rfl) ?_
      refine lv_iload_n hx hb dX6_build_49 rfl (lv_at hl 1 rfl) ?_
      refine lv_iconst (v := 3) hx hb dX6_build_50 (by decide) ?_
      refine dp_Vi hF hK hN (c_X6_of l D G μ R S N E P B L1 L2 L3 sm kp 0 la ln sp od hs j 3 11 _ hμ hM hj (by decide) rfl) (cwV 2 hts gX6_build_X6_of rfl rfl rfl (by decide +kernel) ⟨Nat.le_of_ble_eq_true rfl, Nat.le_of_ble_eq_true rfl⟩) (dp_recv hK hM.1 rfl) hS nA_i [] rfl rfl hl.1 (Nat.le_of_ble_eq_true rfl) dX6_build_51 ⟨Nat.le_of_ble_eq_true rfl, Nat.le_of_ble_eq_true rfl⟩ (fun rH6 H6 locs hp hzH6 hkH6 hS => ?_)
      obtain ⟨rfl, rfl⟩ := hp
      refine lv_iconst (v := 1) hx hb dX6_build_54 (by decide) ?_
      refine lv_icmp_ne (tgt := 64) hx hb dX6_build_55 (by decide) (fun c4 => ?_) (fun c4 => ?_)
      · refine lv_aload_n hx hb dX6_build_64 rfl (lv_at hl 0 rfl) ?_
        refine dp_Vv hF hK hN (c_X6_save l D G μ R S N E P B L1 L2 L3 sm kp 0 la ln sp od hs n _ hμ hM hsm hn6) (cwV 0 hts gX6_build_X6_save rfl rfl rfl (by decide +kernel) ⟨Nat.le_of_ble_eq_true rfl, Nat.le_of_ble_eq_true rfl⟩) (dp_recv hK hM.1 rfl) hS (fun q hq => hq) [] rfl rfl hl.1 (Nat.le_of_ble_eq_true rfl) dX6_build_65 ⟨Nat.le_of_ble_eq_true rfl, Nat.le_of_ble_eq_true rfl⟩ (fun H7 locs hp hzH7 hkH7 hS => ?_)
        have hM := hp
        refine lv_aload_n hx hb dX6_build_68 rfl (lv_at hl 0 rfl) ?_
        refine lv_iload_n hx hb dX6_build_69 rfl (lv_at hl 1 rfl) ?_
        refine lv_iconst (v := 0) hx hb dX6_build_70 (by decide) ?_
        refine dp_Vi hF hK hN (c_X6_of l D G μ R (msv S R n) N E P B L1 L2 L3 (nI (svn n)) kp 0 la ln sp od hs j 0 8 _ hμ hM hj (by decide) rfl) (cwV 2 hts gX6_build_X6_of rfl rfl rfl (by decide +kernel) ⟨Nat.le_of_ble_eq_true rfl, Nat.le_of_ble_eq_true rfl⟩) (dp_recv hK hM.1 rfl) hS nA_i [] rfl rfl hl.1 (Nat.le_of_ble_eq_true rfl) dX6_build_71 ⟨Nat.le_of_ble_eq_true rfl, Nat.le_of_ble_eq_true rfl⟩ (fun rH8 H8 locs hp hzH8 hkH8 hS => ?_)
        obtain ⟨rfl, rfl⟩ := hp
        refine lv_istore (lv' := [(4, .int (R (8 + 10 * j))), (0, .ref (μ 0)), (1, .int (nI j)), (2, .int rt), (3, .int dr)]) hx hb dX6_build_74 hl (by decide) rfl (fun ls hl => ?_)
        refine lv_aload_n hx hb dX6_build_76 rfl (lv_at hl 1 rfl) ?_
        refine lv_iload_n hx hb dX6_build_77 rfl (lv_at hl 2 rfl) ?_
        refine lv_iconst (v := 0) hx hb dX6_build_78 (by decide) ?_
        refine lv_iload_n hx hb dX6_build_79 rfl (lv_at hl 3 rfl) ?_
        refine dp_Vv hF hK hN (c_X6_put l D G μ R (msv S R n) N E P B L1 L2 L3 (nI (svn n)) kp 0 la ln sp od hs j 0 8 rt _ hμ hM hj (by decide) rfl) (cwV 3 hts gX6_build_X6_put rfl rfl rfl (by decide +kernel) ⟨Nat.le_of_ble_eq_true rfl, Nat.le_of_ble_eq_true rfl⟩) (dp_recv hK hM.1 rfl) hS (fun q hq => hq) [] rfl rfl hl.1 (Nat.le_of_ble_eq_true rfl) dX6_build_80 ⟨Nat.le_of_ble_eq_true rfl, Nat.le_of_ble_eq_true rfl⟩ (fun H9 locs hp hzH9 hkH9 hS => ?_)
        have hM := hp
        refine lv_aload_n hx hb dX6_build_83 rfl (lv_at hl 1 rfl) ?_
        refine lv_iload_n hx hb dX6_build_84 rfl (lv_at hl 2 rfl) ?_
        refine lv_iconst (v := 1) hx hb dX6_build_85 (by decide) ?_
        refine lv_iload_n hx hb dX6_build_86 rfl (lv_at hl 4 rfl) ?_
        refine dp_Vv hF hK hN (c_X6_put l D G μ (upd R (8 + 10 * j) rt) (msv S R n) N E P B L1 L2 L3 (nI (svn n)) kp 0 la ln sp od hs j 1 9 dr _ hμ hM hj (by decide) rfl) (cwV 3 hts gX6_build_X6_put rfl rfl rfl (by decide +kernel) ⟨Nat.le_of_ble_eq_true rfl, Nat.le_of_ble_eq_true rfl⟩) (dp_recv hK hM.1 rfl) hS (fun q hq => hq) [] rfl rfl hl.1 (Nat.le_of_ble_eq_true rfl) dX6_build_87 ⟨Nat.le_of_ble_eq_true rfl, Nat.le_of_ble_eq_true rfl⟩ (fun H10 locs hp hzH10 hkH10 hS => ?_)
        have hM := hp
        refine lv_iload hx hb dX6_build_90 (lv_at hl 0 rfl) ?_
        have e0 : cBuild R (nI j) rt dr = 0 := by rw [cBuild, nS_ok hj, nR_ok (sR_ok c2), nR_ok (sR_ok c3), hix, if_pos (((gd_bz hg).1 j hj).1.resolve_right c4)]
        exact W.iret hx hb hr (fun t ht hW => ⟨⟨R (8 + 10 * j), H10, rfl, Or.inl ⟨e0, by rw [hix], by rw [hix]; exact MM.of hM⟩, ht⟩, hS.F ht⟩) hS.2.2 dX6_build_92
      refine lv_aload_n hx hb dX6_build_58 rfl (lv_at hl 0 rfl) ?_
      refine lv_iconst (v := 3) hx hb dX6_build_59 (by decide) ?_
      refine dp_Vi hF hK hN (c_X6_fails l D G μ R S N E P B L1 L2 L3 sm kp 0 la ln sp od hs 3 _ hμ hM ) (cwV 1 hts gX6_build_X6_fails rfl rfl rfl (by decide +kernel) ⟨Nat.le_of_ble_eq_true rfl, Nat.le_of_ble_eq_true rfl⟩) (dp_recv hK hM.1 rfl) hS (fun q hq => hq) [] rfl rfl hl.1 (Nat.le_of_ble_eq_true rfl) dX6_build_60 ⟨Nat.le_of_ble_eq_true rfl, Nat.le_of_ble_eq_true rfl⟩ (fun rH11 H11 locs hp hzH11 hkH11 hS => ?_)
      obtain ⟨rfl, hM⟩ := hp
      have e0 : cBuild R (nI j) rt dr = 3 := by rw [cBuild, nS_ok hj, nR_ok (sR_ok c2), nR_ok (sR_ok c3), hix, if_neg (by rw [c4]; decide)]
      exact W.iret hx hb hr (fun t ht hW => ⟨⟨0, H11, rfl, Or.inr ⟨by rw [e0]; decide, by rw [e0]; exact MM.of hM⟩, ht⟩, hS.F ht⟩) hS.2.2 dX6_build_63
    refine lv_aload_n hx hb dX6_build_42 rfl (lv_at hl 0 rfl) ?_
    refine lv_iconst (v := 2) hx hb dX6_build_43 (by decide) ?_
    refine dp_Vi hF hK hN (c_X6_fails l D G μ R S N E P B L1 L2 L3 sm kp 0 la ln sp od hs 2 _ hμ hM ) (cwV 1 hts gX6_build_X6_fails rfl rfl rfl (by decide +kernel) ⟨Nat.le_of_ble_eq_true rfl, Nat.le_of_ble_eq_true rfl⟩) (dp_recv hK hM.1 rfl) hS (fun q hq => hq) [] rfl rfl hl.1 (Nat.le_of_ble_eq_true rfl) dX6_build_44 ⟨Nat.le_of_ble_eq_true rfl, Nat.le_of_ble_eq_true rfl⟩ (fun rH12 H12 locs hp hzH12 hkH12 hS => ?_)
    obtain ⟨rfl, hM⟩ := hp
    have e0 : cBuild R (nI j) rt dr = 2 := by rw [cBuild, nS_ok hj, nR_ok (sR_ok c2), sR_no c3]
    exact W.iret hx hb hr (fun t ht hW => ⟨⟨0, H12, rfl, Or.inr ⟨by rw [e0]; decide, by rw [e0]; exact MM.of hM⟩, ht⟩, hS.F ht⟩) hS.2.2 dX6_build_47
  refine lv_aload_n hx hb dX6_build_12 rfl (lv_at hl 0 rfl) ?_
  refine lv_iconst (v := 1) hx hb dX6_build_13 (by decide) ?_
  refine dp_Vi hF hK hN (c_X6_fails l D G μ R S N E P B L1 L2 L3 sm kp 0 la ln sp od hs 1 _ hμ hM ) (cwV 1 hts gX6_build_X6_fails rfl rfl rfl (by decide +kernel) ⟨Nat.le_of_ble_eq_true rfl, Nat.le_of_ble_eq_true rfl⟩) (dp_recv hK hM.1 rfl) hS (fun q hq => hq) [] rfl rfl hl.1 (Nat.le_of_ble_eq_true rfl) dX6_build_14 ⟨Nat.le_of_ble_eq_true rfl, Nat.le_of_ble_eq_true rfl⟩ (fun rH13 H13 locs hp hzH13 hkH13 hS => ?_)
  obtain ⟨rfl, hM⟩ := hp
  have e0 : cBuild R i rt dr = 1 := by rw [cBuild, sS_no c1]
  exact W.iret hx hb hr (fun t ht hW => ⟨⟨0, H13, rfl, Or.inr ⟨by rw [e0]; decide, by rw [e0]; exact MM.of hM⟩, ht⟩, hS.F ht⟩) hS.2.2 dX6_build_17

set_option maxHeartbeats 600000 in
set_option maxRecDepth 100000 in
theorem c_X6_speed (l : Launch) (D : va_G) (G : Nat → ClassId) (μ : Nat → Nat) (R S N E P B L1 L2 L3 : Nat → Int32) (sm kp th la ln sp od : Int32) (hs : Int64) (n : Nat) (i v : Int32) (H : Heap) (hμ : inj 10 μ) (hM : MO D G μ R S N E P B L1 L2 L3 sm kp th la ln sp od hs H) (hg : gd R) (hsm : sm = nI n) (hn6 : n ≤ 6) : Met l yX6_speed wsX6_speed ({ frames := 2, cells := 0, slots := 0, locals := 46 } : Room) (va_Pc [.ref (μ 0), .int i, .int v] (CX D G H)) (QI (A6 μ) (fun r h => (cSpeed i v = 0 ∧ R (10 + 10 * ix i) = r ∧ MM D G μ (upd R (10 + 10 * ix i) v) (msv S R n) N B (nI (svn n)) kp 0 ln h) ∨ (¬ cSpeed i v = 0 ∧ MM D G μ R S N B sm kp (cSpeed i v) ln h))) 0 0 (A6 μ) := by
  refine Met.ofW (cc := cX6_speed) (maxL := 3) (ret := (some .int)) (by decide) rfl ?_
  intro p e s m args below meth c s₁ B0 hml hv
  obtain ⟨rfl, rfl, hK, hN⟩ := hv
  have hx := B0.exec
  have hb := B0.bytes
  have hr := B0.returns
  have hts := atoms_spec (ws := wsX6_speed) B0.pre
  have hown : s.vm.findClass RX6 = some m.cls := findClass_of_methodNamed B0.named
  have hlocks := B0.notSynchronized
  have hF : CallFix p m c cX6_speed 3 s ([.ref (μ 0), .int i, .int v] : List Value).toArray wsX6_speed RX6 := ⟨hx, hb, hml, hown, hts⟩
  have hS : va_S (A6 μ) s.heap s.heap [] := va_S.rf
  have hl := lv_entry ([.ref (μ 0), .int i, .int v]) (n := 3) (Nat.le_of_ble_eq_true rfl)
  rw [lg_entry_eq]
  generalize (lg_sl ([.ref (μ 0), .int i, .int v]) ++ List.replicate (3 - (lg_sl ([.ref (μ 0), .int i, .int v])).length) Slot.unset).toArray = ls at hl ⊢
  have hl : lv_has ls 3 [(0, .ref (μ 0)), (1, .int i), (2, .int v)] := hl
  have hwz := gd_wz hg
  have h5 := hg.2.2.2.1
  have h6 := hg.2.2.2.2
  refine lv_aload_n hx hb dX6_speed_0 rfl (lv_at hl 0 rfl) ?_
  refine lv_iconst (v := 0) hx hb dX6_speed_1 (by decide) ?_
  refine dp_put (A := A6 μ) (v := .int 0) hx hb hts (dp_hin 32 rfl) tyX6 tyX6_ok nmX6 hown hK hM.1 (⟨0, by decide, rfl⟩ : A6 μ (μ 0)) hS rfl 6 (by decide) (hts (.fieldLink RX6 41 "DroopBoardModel" "thrown" "I") (List.mem_of_getElem? (i := 1) rfl)) rfl rfl rfl (Nat.le_of_ble_eq_true rfl) dX6_speed_2 (fun H1 locs hH1 hzH1 hkH1 hS => ?_)
  have hM := hM.o (sm' := sm) (kp' := kp) (th' := 0) (la' := la) (ln' := ln) (sp' := sp) (od' := od) (hs' := hs) hμ hH1 hkH1
  refine lv_iload_n hx hb dX6_speed_5 rfl (lv_at hl 1 rfl) ?_
  refine dp_Si hF hK hN (c_X6_isSet l D G i _) (va_cwS 1 hts gX6_speed_X6_isSet rfl rfl rfl (by decide +kernel) ⟨Nat.le_of_ble_eq_true rfl, Nat.le_of_ble_eq_true rfl⟩) hS nA_i [] rfl rfl hl.1 (Nat.le_of_ble_eq_true rfl) dX6_speed_6 ⟨Nat.le_of_ble_eq_true rfl, Nat.le_of_ble_eq_true rfl⟩ (fun rH2 H2 locs hp hzH2 hkH2 hS => ?_)
  obtain ⟨rfl, rfl⟩ := hp
  refine lv_if_ne (tgt := 18) hx hb dX6_speed_9 (by decide) (fun c1 => ?_) (fun c1 => ?_)
  · obtain ⟨j, hj, rfl⟩ := sS_ok c1
    have hix : ix (nI j) = j := ix_nI (by omega)
    refine lv_iload_n hx hb dX6_speed_18 rfl (lv_at hl 2 rfl) ?_
    refine lv_sipush (v := 4700) hx hb dX6_speed_19 (by decide) ?_
    refine lv_sipush (v := 5300) hx hb dX6_speed_22 (by decide) ?_
    refine dp_Si hF hK hN (c_X6_in l D G v 4700 5300 _) (va_cwS 3 hts gX6_speed_X6_in rfl rfl rfl (by decide +kernel) ⟨Nat.le_of_ble_eq_true rfl, Nat.le_of_ble_eq_true rfl⟩) hS nA_i [] rfl rfl hl.1 (Nat.le_of_ble_eq_true rfl) dX6_speed_25 ⟨Nat.le_of_ble_eq_true rfl, Nat.le_of_ble_eq_true rfl⟩ (fun rH3 H3 locs hp hzH3 hkH3 hS => ?_)
    obtain ⟨rfl, rfl⟩ := hp
    refine lv_if_ne (tgt := 37) hx hb dX6_speed_28 (by decide) (fun c2 => ?_) (fun c2 => ?_)
    · refine lv_aload_n hx hb dX6_speed_37 rfl (lv_at hl 0 rfl) ?_
      refine dp_Vv hF hK hN (c_X6_save l D G μ R S N E P B L1 L2 L3 sm kp 0 la ln sp od hs n _ hμ hM hsm hn6) (cwV 0 hts gX6_speed_X6_save rfl rfl rfl (by decide +kernel) ⟨Nat.le_of_ble_eq_true rfl, Nat.le_of_ble_eq_true rfl⟩) (dp_recv hK hM.1 rfl) hS (fun q hq => hq) [] rfl rfl hl.1 (Nat.le_of_ble_eq_true rfl) dX6_speed_38 ⟨Nat.le_of_ble_eq_true rfl, Nat.le_of_ble_eq_true rfl⟩ (fun H4 locs hp hzH4 hkH4 hS => ?_)
      have hM := hp
      refine lv_aload_n hx hb dX6_speed_41 rfl (lv_at hl 0 rfl) ?_
      refine lv_iload_n hx hb dX6_speed_42 rfl (lv_at hl 1 rfl) ?_
      refine lv_iload_n hx hb dX6_speed_43 rfl (lv_at hl 2 rfl) ?_
      refine dp_Vi hF hK hN (c_X6_speedNow l D G μ R (msv S R n) N E P B L1 L2 L3 (nI (svn n)) kp 0 la ln sp od hs j v _ hμ hM hj) (cwV 2 hts gX6_speed_X6_speedNow rfl rfl rfl (by decide +kernel) ⟨Nat.le_of_ble_eq_true rfl, Nat.le_of_ble_eq_true rfl⟩) (dp_recv hK hM.1 rfl) hS (fun q hq => hq) [] rfl rfl hl.1 (Nat.le_of_ble_eq_true rfl) dX6_speed_44 ⟨Nat.le_of_ble_eq_true rfl, Nat.le_of_ble_eq_true rfl⟩ (fun rH5 H5 locs hp hzH5 hkH5 hS => ?_)
      obtain ⟨rfl, hM⟩ := hp
      have e0 : cSpeed (nI j) v = 0 := by rw [cSpeed, nS_ok hj, nR_ok (sR_ok c2)]
      exact W.iret hx hb hr (fun t ht hW => ⟨⟨R (10 + 10 * j), H5, rfl, Or.inl ⟨e0, by rw [hix], by rw [hix]; exact MM.of hM⟩, ht⟩, hS.F ht⟩) hS.2.2 dX6_speed_47
    refine lv_aload_n hx hb dX6_speed_31 rfl (lv_at hl 0 rfl) ?_
    refine lv_iconst (v := 2) hx hb dX6_speed_32 (by decide) ?_
    refine dp_Vi hF hK hN (c_X6_fails l D G μ R S N E P B L1 L2 L3 sm kp 0 la ln sp od hs 2 _ hμ hM ) (cwV 1 hts gX6_speed_X6_fails rfl rfl rfl (by decide +kernel) ⟨Nat.le_of_ble_eq_true rfl, Nat.le_of_ble_eq_true rfl⟩) (dp_recv hK hM.1 rfl) hS (fun q hq => hq) [] rfl rfl hl.1 (Nat.le_of_ble_eq_true rfl) dX6_speed_33 ⟨Nat.le_of_ble_eq_true rfl, Nat.le_of_ble_eq_true rfl⟩ (fun rH6 H6 locs hp hzH6 hkH6 hS => ?_)
    obtain ⟨rfl, hM⟩ := hp
    have e0 : cSpeed (nI j) v = 2 := by rw [cSpeed, nS_ok hj, sR_no c2]
    exact W.iret hx hb hr (fun t ht hW => ⟨⟨0, H6, rfl, Or.inr ⟨by rw [e0]; decide, by rw [e0]; exact MM.of hM⟩, ht⟩, hS.F ht⟩) hS.2.2 dX6_speed_36
  refine lv_aload_n hx hb dX6_speed_12 rfl (lv_at hl 0 rfl) ?_
  refine lv_iconst (v := 1) hx hb dX6_speed_13 (by decide) ?_
  refine dp_Vi hF hK hN (c_X6_fails l D G μ R S N E P B L1 L2 L3 sm kp 0 la ln sp od hs 1 _ hμ hM ) (cwV 1 hts gX6_speed_X6_fails rfl rfl rfl (by decide +kernel) ⟨Nat.le_of_ble_eq_true rfl, Nat.le_of_ble_eq_true rfl⟩) (dp_recv hK hM.1 rfl) hS (fun q hq => hq) [] rfl rfl hl.1 (Nat.le_of_ble_eq_true rfl) dX6_speed_14 ⟨Nat.le_of_ble_eq_true rfl, Nat.le_of_ble_eq_true rfl⟩ (fun rH7 H7 locs hp hzH7 hkH7 hS => ?_)
  obtain ⟨rfl, hM⟩ := hp
  have e0 : cSpeed i v = 1 := by rw [cSpeed, sS_no c1]
  exact W.iret hx hb hr (fun t ht hW => ⟨⟨0, H7, rfl, Or.inr ⟨by rw [e0]; decide, by rw [e0]; exact MM.of hM⟩, ht⟩, hS.F ht⟩) hS.2.2 dX6_speed_17

set_option maxHeartbeats 600000 in
set_option maxRecDepth 100000 in
theorem c_X6_run (l : Launch) (D : va_G) (G : Nat → ClassId) (μ : Nat → Nat) (R S N E P B L1 L2 L3 : Nat → Int32) (sm kp th la ln sp od : Int32) (hs : Int64) (n : Nat) (i : Int32) (H : Heap) (hμ : inj 10 μ) (hM : MO D G μ R S N E P B L1 L2 L3 sm kp th la ln sp od hs H) (hg : gd R) (hsm : sm = nI n) (hn6 : n ≤ 6) : Met l yX6_run wsX6_run ({ frames := 3, cells := 0, slots := 0, locals := 65 } : Room) (va_Pc [.ref (μ 0), .int i] (CX D G H)) (QI (A6 μ) (fun r h => (cRun R i = 0 ∧ osum (rst (upd R (11 + 10 * ix i) 1) (ix i)) 11 3 = r ∧ MM D G μ (rst (upd R (11 + 10 * ix i) 1) (ix i)) (msv S R n) N B (nI (svn n)) kp 0 ln h) ∨ (¬ cRun R i = 0 ∧ MM D G μ R S N B sm kp (cRun R i) ln h))) 0 0 (A6 μ) := by
  refine Met.ofW (cc := cX6_run) (maxL := 2) (ret := (some .int)) (by decide) rfl ?_
  intro p e s m args below meth c s₁ B0 hml hv
  obtain ⟨rfl, rfl, hK, hN⟩ := hv
  have hx := B0.exec
  have hb := B0.bytes
  have hr := B0.returns
  have hts := atoms_spec (ws := wsX6_run) B0.pre
  have hown : s.vm.findClass RX6 = some m.cls := findClass_of_methodNamed B0.named
  have hlocks := B0.notSynchronized
  have hF : CallFix p m c cX6_run 2 s ([.ref (μ 0), .int i] : List Value).toArray wsX6_run RX6 := ⟨hx, hb, hml, hown, hts⟩
  have hS : va_S (A6 μ) s.heap s.heap [] := va_S.rf
  have hl := lv_entry ([.ref (μ 0), .int i]) (n := 2) (Nat.le_of_ble_eq_true rfl)
  rw [lg_entry_eq]
  generalize (lg_sl ([.ref (μ 0), .int i]) ++ List.replicate (2 - (lg_sl ([.ref (μ 0), .int i])).length) Slot.unset).toArray = ls at hl ⊢
  have hl : lv_has ls 2 [(0, .ref (μ 0)), (1, .int i)] := hl
  have hwz := gd_wz hg
  have h5 := hg.2.2.2.1
  have h6 := hg.2.2.2.2
  refine lv_aload_n hx hb dX6_run_0 rfl (lv_at hl 0 rfl) ?_
  refine lv_iconst (v := 0) hx hb dX6_run_1 (by decide) ?_
  refine dp_put (A := A6 μ) (v := .int 0) hx hb hts (dp_hin 40 rfl) tyX6 tyX6_ok nmX6 hown hK hM.1 (⟨0, by decide, rfl⟩ : A6 μ (μ 0)) hS rfl 6 (by decide) (hts (.fieldLink RX6 41 "DroopBoardModel" "thrown" "I") (List.mem_of_getElem? (i := 1) rfl)) rfl rfl rfl (Nat.le_of_ble_eq_true rfl) dX6_run_2 (fun H1 locs hH1 hzH1 hkH1 hS => ?_)
  have hM := hM.o (sm' := sm) (kp' := kp) (th' := 0) (la' := la) (ln' := ln) (sp' := sp) (od' := od) (hs' := hs) hμ hH1 hkH1
  refine lv_iload_n hx hb dX6_run_5 rfl (lv_at hl 1 rfl) ?_
  refine dp_Si hF hK hN (c_X6_isSet l D G i _) (va_cwS 1 hts gX6_run_X6_isSet rfl rfl rfl (by decide +kernel) ⟨Nat.le_of_ble_eq_true rfl, Nat.le_of_ble_eq_true rfl⟩) hS nA_i [] rfl rfl hl.1 (Nat.le_of_ble_eq_true rfl) dX6_run_6 ⟨Nat.le_of_ble_eq_true rfl, Nat.le_of_ble_eq_true rfl⟩ (fun rH2 H2 locs hp hzH2 hkH2 hS => ?_)
  obtain ⟨rfl, rfl⟩ := hp
  refine lv_if_ne (tgt := 18) hx hb dX6_run_9 (by decide) (fun c1 => ?_) (fun c1 => ?_)
  · obtain ⟨j, hj, rfl⟩ := sS_ok c1
    have hix : ix (nI j) = j := ix_nI (by omega)
    refine lv_aload_n hx hb dX6_run_18 rfl (lv_at hl 0 rfl) ?_
    refine lv_iload_n hx hb dX6_run_19 rfl (lv_at hl 1 rfl) ?_
    refine lv_iconst (v := 3) hx hb dX6_run_20 (by decide) ?_
    refine dp_Vi hF hK hN (c_X6_of l D G μ R S N E P B L1 L2 L3 sm kp 0 la ln sp od hs j 3 11 _ hμ hM hj (by decide) rfl) (cwV 2 hts gX6_run_X6_of rfl rfl rfl (by decide +kernel) ⟨Nat.le_of_ble_eq_true rfl, Nat.le_of_ble_eq_true rfl⟩) (dp_recv hK hM.1 rfl) hS nA_i [] rfl rfl hl.1 (Nat.le_of_ble_eq_true rfl) dX6_run_21 ⟨Nat.le_of_ble_eq_true rfl, Nat.le_of_ble_eq_true rfl⟩ (fun rH3 H3 locs hp hzH3 hkH3 hS => ?_)
    obtain ⟨rfl, rfl⟩ := hp
    refine lv_iconst (v := 1) hx hb dX6_run_24 (by decide) ?_
    refine lv_icmp_ne (tgt := 34) hx hb dX6_run_25 (by decide) (fun c2 => ?_) (fun c2 => ?_)
    · refine lv_aload_n hx hb dX6_run_34 rfl (lv_at hl 0 rfl) ?_
      refine dp_Vv hF hK hN (c_X6_save l D G μ R S N E P B L1 L2 L3 sm kp 0 la ln sp od hs n _ hμ hM hsm hn6) (cwV 0 hts gX6_run_X6_save rfl rfl rfl (by decide +kernel) ⟨Nat.le_of_ble_eq_true rfl, Nat.le_of_ble_eq_true rfl⟩) (dp_recv hK hM.1 rfl) hS (fun q hq => hq) [] rfl rfl hl.1 (Nat.le_of_ble_eq_true rfl) dX6_run_35 ⟨Nat.le_of_ble_eq_true rfl, Nat.le_of_ble_eq_true rfl⟩ (fun H4 locs hp hzH4 hkH4 hS => ?_)
      have hM := hp
      refine lv_aload_n hx hb dX6_run_38 rfl (lv_at hl 0 rfl) ?_
      refine lv_iload_n hx hb dX6_run_39 rfl (lv_at hl 1 rfl) ?_
      refine dp_Vi hF hK hN (c_X6_runNow l D G μ R (msv S R n) N E P B L1 L2 L3 (nI (svn n)) kp 0 la ln sp od hs j _ hμ hM hj) (cwV 1 hts gX6_run_X6_runNow rfl rfl rfl (by decide +kernel) ⟨Nat.le_of_ble_eq_true rfl, Nat.le_of_ble_eq_true rfl⟩) (dp_recv hK hM.1 rfl) hS (fun q hq => hq) [] rfl rfl hl.1 (Nat.le_of_ble_eq_true rfl) dX6_run_40 ⟨Nat.le_of_ble_eq_true rfl, Nat.le_of_ble_eq_true rfl⟩ (fun rH5 H5 locs hp hzH5 hkH5 hS => ?_)
      obtain ⟨rfl, hM⟩ := hp
      have e0 : cRun R (nI j) = 0 := by rw [cRun, nS_ok hj, hix, if_pos (((gd_bz hg).1 j hj).1.resolve_right c2)]
      exact W.iret hx hb hr (fun t ht hW => ⟨⟨sm3 (rst (upd R (11 + 10 * j) 1) j) 11, H5, rfl, Or.inl ⟨e0, by rw [hix]; exact (osum_sm (gd_sw hg hj (Or.inl rfl) (Or.inr rfl)) (Or.inl rfl)).symm, by rw [hix]; exact MM.of hM⟩, ht⟩, hS.F ht⟩) hS.2.2 dX6_run_43
    refine lv_aload_n hx hb dX6_run_28 rfl (lv_at hl 0 rfl) ?_
    refine lv_iconst (v := 2) hx hb dX6_run_29 (by decide) ?_
    refine dp_Vi hF hK hN (c_X6_fails l D G μ R S N E P B L1 L2 L3 sm kp 0 la ln sp od hs 2 _ hμ hM ) (cwV 1 hts gX6_run_X6_fails rfl rfl rfl (by decide +kernel) ⟨Nat.le_of_ble_eq_true rfl, Nat.le_of_ble_eq_true rfl⟩) (dp_recv hK hM.1 rfl) hS (fun q hq => hq) [] rfl rfl hl.1 (Nat.le_of_ble_eq_true rfl) dX6_run_30 ⟨Nat.le_of_ble_eq_true rfl, Nat.le_of_ble_eq_true rfl⟩ (fun rH6 H6 locs hp hzH6 hkH6 hS => ?_)
    obtain ⟨rfl, hM⟩ := hp
    have e0 : cRun R (nI j) = 2 := by rw [cRun, nS_ok hj, hix, if_neg (by rw [c2]; decide)]
    exact W.iret hx hb hr (fun t ht hW => ⟨⟨0, H6, rfl, Or.inr ⟨by rw [e0]; decide, by rw [e0]; exact MM.of hM⟩, ht⟩, hS.F ht⟩) hS.2.2 dX6_run_33
  refine lv_aload_n hx hb dX6_run_12 rfl (lv_at hl 0 rfl) ?_
  refine lv_iconst (v := 1) hx hb dX6_run_13 (by decide) ?_
  refine dp_Vi hF hK hN (c_X6_fails l D G μ R S N E P B L1 L2 L3 sm kp 0 la ln sp od hs 1 _ hμ hM ) (cwV 1 hts gX6_run_X6_fails rfl rfl rfl (by decide +kernel) ⟨Nat.le_of_ble_eq_true rfl, Nat.le_of_ble_eq_true rfl⟩) (dp_recv hK hM.1 rfl) hS (fun q hq => hq) [] rfl rfl hl.1 (Nat.le_of_ble_eq_true rfl) dX6_run_14 ⟨Nat.le_of_ble_eq_true rfl, Nat.le_of_ble_eq_true rfl⟩ (fun rH7 H7 locs hp hzH7 hkH7 hS => ?_)
  obtain ⟨rfl, hM⟩ := hp
  have e0 : cRun R i = 1 := by rw [cRun, sS_no c1]
  exact W.iret hx hb hr (fun t ht hW => ⟨⟨0, H7, rfl, Or.inr ⟨by rw [e0]; decide, by rw [e0]; exact MM.of hM⟩, ht⟩, hS.F ht⟩) hS.2.2 dX6_run_17

set_option maxHeartbeats 600000 in
set_option maxRecDepth 100000 in
theorem c_X6_halt (l : Launch) (D : va_G) (G : Nat → ClassId) (μ : Nat → Nat) (R S N E P B L1 L2 L3 : Nat → Int32) (sm kp th la ln sp od : Int32) (hs : Int64) (n : Nat) (i : Int32) (H : Heap) (hμ : inj 10 μ) (hM : MO D G μ R S N E P B L1 L2 L3 sm kp th la ln sp od hs H) (hg : gd R) (hsm : sm = nI n) (hn6 : n ≤ 6) : Met l yX6_halt wsX6_halt ({ frames := 3, cells := 0, slots := 0, locals := 65 } : Room) (va_Pc [.ref (μ 0), .int i] (CX D G H)) (QI (A6 μ) (fun r h => (cHalt R i = 0 ∧ osum (rst (upd R (11 + 10 * ix i) 0) (ix i)) 11 3 = r ∧ MM D G μ (rst (upd R (11 + 10 * ix i) 0) (ix i)) (msv S R n) N B (nI (svn n)) kp 0 ln h) ∨ (¬ cHalt R i = 0 ∧ MM D G μ R S N B sm kp (cHalt R i) ln h))) 0 0 (A6 μ) := by
  refine Met.ofW (cc := cX6_halt) (maxL := 2) (ret := (some .int)) (by decide) rfl ?_
  intro p e s m args below meth c s₁ B0 hml hv
  obtain ⟨rfl, rfl, hK, hN⟩ := hv
  have hx := B0.exec
  have hb := B0.bytes
  have hr := B0.returns
  have hts := atoms_spec (ws := wsX6_halt) B0.pre
  have hown : s.vm.findClass RX6 = some m.cls := findClass_of_methodNamed B0.named
  have hlocks := B0.notSynchronized
  have hF : CallFix p m c cX6_halt 2 s ([.ref (μ 0), .int i] : List Value).toArray wsX6_halt RX6 := ⟨hx, hb, hml, hown, hts⟩
  have hS : va_S (A6 μ) s.heap s.heap [] := va_S.rf
  have hl := lv_entry ([.ref (μ 0), .int i]) (n := 2) (Nat.le_of_ble_eq_true rfl)
  rw [lg_entry_eq]
  generalize (lg_sl ([.ref (μ 0), .int i]) ++ List.replicate (2 - (lg_sl ([.ref (μ 0), .int i])).length) Slot.unset).toArray = ls at hl ⊢
  have hl : lv_has ls 2 [(0, .ref (μ 0)), (1, .int i)] := hl
  have hwz := gd_wz hg
  have h5 := hg.2.2.2.1
  have h6 := hg.2.2.2.2
  refine lv_aload_n hx hb dX6_halt_0 rfl (lv_at hl 0 rfl) ?_
  refine lv_iconst (v := 0) hx hb dX6_halt_1 (by decide) ?_
  refine dp_put (A := A6 μ) (v := .int 0) hx hb hts (dp_hin 44 rfl) tyX6 tyX6_ok nmX6 hown hK hM.1 (⟨0, by decide, rfl⟩ : A6 μ (μ 0)) hS rfl 6 (by decide) (hts (.fieldLink RX6 41 "DroopBoardModel" "thrown" "I") (List.mem_of_getElem? (i := 1) rfl)) rfl rfl rfl (Nat.le_of_ble_eq_true rfl) dX6_halt_2 (fun H1 locs hH1 hzH1 hkH1 hS => ?_)
  have hM := hM.o (sm' := sm) (kp' := kp) (th' := 0) (la' := la) (ln' := ln) (sp' := sp) (od' := od) (hs' := hs) hμ hH1 hkH1
  refine lv_iload_n hx hb dX6_halt_5 rfl (lv_at hl 1 rfl) ?_
  refine dp_Si hF hK hN (c_X6_isSet l D G i _) (va_cwS 1 hts gX6_halt_X6_isSet rfl rfl rfl (by decide +kernel) ⟨Nat.le_of_ble_eq_true rfl, Nat.le_of_ble_eq_true rfl⟩) hS nA_i [] rfl rfl hl.1 (Nat.le_of_ble_eq_true rfl) dX6_halt_6 ⟨Nat.le_of_ble_eq_true rfl, Nat.le_of_ble_eq_true rfl⟩ (fun rH2 H2 locs hp hzH2 hkH2 hS => ?_)
  obtain ⟨rfl, rfl⟩ := hp
  refine lv_if_ne (tgt := 18) hx hb dX6_halt_9 (by decide) (fun c1 => ?_) (fun c1 => ?_)
  · obtain ⟨j, hj, rfl⟩ := sS_ok c1
    have hix : ix (nI j) = j := ix_nI (by omega)
    refine lv_aload_n hx hb dX6_halt_18 rfl (lv_at hl 0 rfl) ?_
    refine lv_iload_n hx hb dX6_halt_19 rfl (lv_at hl 1 rfl) ?_
    refine dp_Vi hF hK hN (c_X6_canHalt l D G μ R S N E P B L1 L2 L3 sm kp 0 la ln sp od hs j _ hμ hM hj) (cwV 1 hts gX6_halt_X6_canHalt rfl rfl rfl (by decide +kernel) ⟨Nat.le_of_ble_eq_true rfl, Nat.le_of_ble_eq_true rfl⟩) (dp_recv hK hM.1 rfl) hS nA_i [] rfl rfl hl.1 (Nat.le_of_ble_eq_true rfl) dX6_halt_20 ⟨Nat.le_of_ble_eq_true rfl, Nat.le_of_ble_eq_true rfl⟩ (fun rH3 H3 locs hp hzH3 hkH3 hS => ?_)
    obtain ⟨rfl, rfl⟩ := hp
    refine lv_if_ne (tgt := 32) hx hb dX6_halt_23 (by decide) (fun c2 => ?_) (fun c2 => ?_)
    · refine lv_aload_n hx hb dX6_halt_32 rfl (lv_at hl 0 rfl) ?_
      refine dp_Vv hF hK hN (c_X6_save l D G μ R S N E P B L1 L2 L3 sm kp 0 la ln sp od hs n _ hμ hM hsm hn6) (cwV 0 hts gX6_halt_X6_save rfl rfl rfl (by decide +kernel) ⟨Nat.le_of_ble_eq_true rfl, Nat.le_of_ble_eq_true rfl⟩) (dp_recv hK hM.1 rfl) hS (fun q hq => hq) [] rfl rfl hl.1 (Nat.le_of_ble_eq_true rfl) dX6_halt_33 ⟨Nat.le_of_ble_eq_true rfl, Nat.le_of_ble_eq_true rfl⟩ (fun H4 locs hp hzH4 hkH4 hS => ?_)
      have hM := hp
      refine lv_aload_n hx hb dX6_halt_36 rfl (lv_at hl 0 rfl) ?_
      refine lv_iload_n hx hb dX6_halt_37 rfl (lv_at hl 1 rfl) ?_
      refine dp_Vi hF hK hN (c_X6_haltNow l D G μ R (msv S R n) N E P B L1 L2 L3 (nI (svn n)) kp 0 la ln sp od hs j _ hμ hM hj) (cwV 1 hts gX6_halt_X6_haltNow rfl rfl rfl (by decide +kernel) ⟨Nat.le_of_ble_eq_true rfl, Nat.le_of_ble_eq_true rfl⟩) (dp_recv hK hM.1 rfl) hS (fun q hq => hq) [] rfl rfl hl.1 (Nat.le_of_ble_eq_true rfl) dX6_halt_38 ⟨Nat.le_of_ble_eq_true rfl, Nat.le_of_ble_eq_true rfl⟩ (fun rH5 H5 locs hp hzH5 hkH5 hS => ?_)
      obtain ⟨rfl, hM⟩ := hp
      have e0 : cHalt R (nI j) = 0 := by rw [cHalt, nS_ok hj, hix, ch_ok c2]
      exact W.iret hx hb hr (fun t ht hW => ⟨⟨sm3 (rst (upd R (11 + 10 * j) 0) j) 11, H5, rfl, Or.inl ⟨e0, by rw [hix]; exact (osum_sm (gd_sw hg hj (Or.inl rfl) (Or.inl rfl)) (Or.inl rfl)).symm, by rw [hix]; exact MM.of hM⟩, ht⟩, hS.F ht⟩) hS.2.2 dX6_halt_41
    refine lv_aload_n hx hb dX6_halt_26 rfl (lv_at hl 0 rfl) ?_
    refine lv_iconst (v := 2) hx hb dX6_halt_27 (by decide) ?_
    refine dp_Vi hF hK hN (c_X6_fails l D G μ R S N E P B L1 L2 L3 sm kp 0 la ln sp od hs 2 _ hμ hM ) (cwV 1 hts gX6_halt_X6_fails rfl rfl rfl (by decide +kernel) ⟨Nat.le_of_ble_eq_true rfl, Nat.le_of_ble_eq_true rfl⟩) (dp_recv hK hM.1 rfl) hS (fun q hq => hq) [] rfl rfl hl.1 (Nat.le_of_ble_eq_true rfl) dX6_halt_28 ⟨Nat.le_of_ble_eq_true rfl, Nat.le_of_ble_eq_true rfl⟩ (fun rH6 H6 locs hp hzH6 hkH6 hS => ?_)
    obtain ⟨rfl, hM⟩ := hp
    have e0 : cHalt R (nI j) = 2 := by rw [cHalt, nS_ok hj, hix, ch_no ((gd_bz hg).1 j hj).1 c2]
    exact W.iret hx hb hr (fun t ht hW => ⟨⟨0, H6, rfl, Or.inr ⟨by rw [e0]; decide, by rw [e0]; exact MM.of hM⟩, ht⟩, hS.F ht⟩) hS.2.2 dX6_halt_31
  refine lv_aload_n hx hb dX6_halt_12 rfl (lv_at hl 0 rfl) ?_
  refine lv_iconst (v := 1) hx hb dX6_halt_13 (by decide) ?_
  refine dp_Vi hF hK hN (c_X6_fails l D G μ R S N E P B L1 L2 L3 sm kp 0 la ln sp od hs 1 _ hμ hM ) (cwV 1 hts gX6_halt_X6_fails rfl rfl rfl (by decide +kernel) ⟨Nat.le_of_ble_eq_true rfl, Nat.le_of_ble_eq_true rfl⟩) (dp_recv hK hM.1 rfl) hS (fun q hq => hq) [] rfl rfl hl.1 (Nat.le_of_ble_eq_true rfl) dX6_halt_14 ⟨Nat.le_of_ble_eq_true rfl, Nat.le_of_ble_eq_true rfl⟩ (fun rH7 H7 locs hp hzH7 hkH7 hS => ?_)
  obtain ⟨rfl, hM⟩ := hp
  have e0 : cHalt R i = 1 := by rw [cHalt, sS_no c1]
  exact W.iret hx hb hr (fun t ht hW => ⟨⟨0, H7, rfl, Or.inr ⟨by rw [e0]; decide, by rw [e0]; exact MM.of hM⟩, ht⟩, hS.F ht⟩) hS.2.2 dX6_halt_17

set_option maxHeartbeats 600000 in
set_option maxRecDepth 100000 in
theorem c_X6_close (l : Launch) (D : va_G) (G : Nat → ClassId) (μ : Nat → Nat) (R S N E P B L1 L2 L3 : Nat → Int32) (sm kp th la ln sp od : Int32) (hs : Int64) (n : Nat) (i : Int32) (H : Heap) (hμ : inj 10 μ) (hM : MO D G μ R S N E P B L1 L2 L3 sm kp th la ln sp od hs H) (hg : gd R) (hsm : sm = nI n) (hn6 : n ≤ 6) : Met l yX6_close wsX6_close ({ frames := 6, cells := 0, slots := 0, locals := 129 } : Room) (va_Pc [.ref (μ 0), .int i] (CX D G H)) (QI (A6 μ) (fun r h => (cClose R i = 0 ∧ fq (rst (upd R (12 + 10 * ix i) 1) (ix i)) = r ∧ MM D G μ (rst (upd R (12 + 10 * ix i) 1) (ix i)) (msv S R n) N B (nI (svn n)) kp 0 ln h) ∨ (¬ cClose R i = 0 ∧ MM D G μ R S N B sm kp (cClose R i) ln h))) 0 0 (A6 μ) := by
  refine Met.ofW (cc := cX6_close) (maxL := 2) (ret := (some .int)) (by decide) rfl ?_
  intro p e s m args below meth c s₁ B0 hml hv
  obtain ⟨rfl, rfl, hK, hN⟩ := hv
  have hx := B0.exec
  have hb := B0.bytes
  have hr := B0.returns
  have hts := atoms_spec (ws := wsX6_close) B0.pre
  have hown : s.vm.findClass RX6 = some m.cls := findClass_of_methodNamed B0.named
  have hlocks := B0.notSynchronized
  have hF : CallFix p m c cX6_close 2 s ([.ref (μ 0), .int i] : List Value).toArray wsX6_close RX6 := ⟨hx, hb, hml, hown, hts⟩
  have hS : va_S (A6 μ) s.heap s.heap [] := va_S.rf
  have hl := lv_entry ([.ref (μ 0), .int i]) (n := 2) (Nat.le_of_ble_eq_true rfl)
  rw [lg_entry_eq]
  generalize (lg_sl ([.ref (μ 0), .int i]) ++ List.replicate (2 - (lg_sl ([.ref (μ 0), .int i])).length) Slot.unset).toArray = ls at hl ⊢
  have hl : lv_has ls 2 [(0, .ref (μ 0)), (1, .int i)] := hl
  have hwz := gd_wz hg
  have h5 := hg.2.2.2.1
  have h6 := hg.2.2.2.2
  refine lv_aload_n hx hb dX6_close_0 rfl (lv_at hl 0 rfl) ?_
  refine lv_iconst (v := 0) hx hb dX6_close_1 (by decide) ?_
  refine dp_put (A := A6 μ) (v := .int 0) hx hb hts (dp_hin 74 rfl) tyX6 tyX6_ok nmX6 hown hK hM.1 (⟨0, by decide, rfl⟩ : A6 μ (μ 0)) hS rfl 6 (by decide) (hts (.fieldLink RX6 41 "DroopBoardModel" "thrown" "I") (List.mem_of_getElem? (i := 1) rfl)) rfl rfl rfl (Nat.le_of_ble_eq_true rfl) dX6_close_2 (fun H1 locs hH1 hzH1 hkH1 hS => ?_)
  have hM := hM.o (sm' := sm) (kp' := kp) (th' := 0) (la' := la) (ln' := ln) (sp' := sp) (od' := od) (hs' := hs) hμ hH1 hkH1
  refine lv_iload_n hx hb dX6_close_5 rfl (lv_at hl 1 rfl) ?_
  refine dp_Si hF hK hN (c_X6_isSet l D G i _) (va_cwS 1 hts gX6_close_X6_isSet rfl rfl rfl (by decide +kernel) ⟨Nat.le_of_ble_eq_true rfl, Nat.le_of_ble_eq_true rfl⟩) hS nA_i [] rfl rfl hl.1 (Nat.le_of_ble_eq_true rfl) dX6_close_6 ⟨Nat.le_of_ble_eq_true rfl, Nat.le_of_ble_eq_true rfl⟩ (fun rH2 H2 locs hp hzH2 hkH2 hS => ?_)
  obtain ⟨rfl, rfl⟩ := hp
  refine lv_if_ne (tgt := 18) hx hb dX6_close_9 (by decide) (fun c1 => ?_) (fun c1 => ?_)
  · obtain ⟨j, hj, rfl⟩ := sS_ok c1
    have hix : ix (nI j) = j := ix_nI (by omega)
    refine lv_aload_n hx hb dX6_close_18 rfl (lv_at hl 0 rfl) ?_
    refine lv_iload_n hx hb dX6_close_19 rfl (lv_at hl 1 rfl) ?_
    refine dp_Vi hF hK hN (c_X6_reason l D G μ R S N E P B L1 L2 L3 sm kp 0 la ln sp od hs j _ hμ hM hwz hj) (cwV 1 hts gX6_close_X6_reason rfl rfl rfl (by decide +kernel) ⟨Nat.le_of_ble_eq_true rfl, Nat.le_of_ble_eq_true rfl⟩) (dp_recv hK hM.1 rfl) hS nA_i [] rfl rfl hl.1 (Nat.le_of_ble_eq_true rfl) dX6_close_20 ⟨Nat.le_of_ble_eq_true rfl, Nat.le_of_ble_eq_true rfl⟩ (fun rH3 H3 locs hp hzH3 hkH3 hS => ?_)
    obtain ⟨rfl, rfl⟩ := hp
    refine lv_if_le (tgt := 32) hx hb dX6_close_23 (by decide) (fun c2 => ?_) (fun c2 => ?_)
    · refine lv_aload_n hx hb dX6_close_32 rfl (lv_at hl 0 rfl) ?_
      refine dp_Vv hF hK hN (c_X6_save l D G μ R S N E P B L1 L2 L3 sm kp 0 la ln sp od hs n _ hμ hM hsm hn6) (cwV 0 hts gX6_close_X6_save rfl rfl rfl (by decide +kernel) ⟨Nat.le_of_ble_eq_true rfl, Nat.le_of_ble_eq_true rfl⟩) (dp_recv hK hM.1 rfl) hS (fun q hq => hq) [] rfl rfl hl.1 (Nat.le_of_ble_eq_true rfl) dX6_close_33 ⟨Nat.le_of_ble_eq_true rfl, Nat.le_of_ble_eq_true rfl⟩ (fun H4 locs hp hzH4 hkH4 hS => ?_)
      have hM := hp
      refine lv_aload_n hx hb dX6_close_36 rfl (lv_at hl 0 rfl) ?_
      refine lv_iload_n hx hb dX6_close_37 rfl (lv_at hl 1 rfl) ?_
      refine lv_iconst (v := 1) hx hb dX6_close_38 (by decide) ?_
      refine dp_Vi hF hK hN (c_X6_switchNow l D G μ R (msv S R n) N E P B L1 L2 L3 (nI (svn n)) kp 0 la ln sp od hs j 1 _ hμ hM hj (gd_wz (gd_sw hg hj (Or.inr rfl) (Or.inr rfl)))) (cwV 2 hts gX6_close_X6_switchNow rfl rfl rfl (by decide +kernel) ⟨Nat.le_of_ble_eq_true rfl, Nat.le_of_ble_eq_true rfl⟩) (dp_recv hK hM.1 rfl) hS (fun q hq => hq) [] rfl rfl hl.1 (Nat.le_of_ble_eq_true rfl) dX6_close_39 ⟨Nat.le_of_ble_eq_true rfl, Nat.le_of_ble_eq_true rfl⟩ (fun rH5 H5 locs hp hzH5 hkH5 hS => ?_)
      obtain ⟨rfl, hM⟩ := hp
      have e0 : cClose R (nI j) = 0 := by rw [cClose, nS_ok hj, hix, if_pos (Int32.le_antisymm c2 (rsn_nn _ _))]
      exact W.iret hx hb hr (fun t ht hW => ⟨⟨fq (rst (upd R (12 + 10 * j) 1) j), H5, rfl, Or.inl ⟨e0, by rw [hix], by rw [hix]; exact MM.of hM⟩, ht⟩, hS.F ht⟩) hS.2.2 dX6_close_42
    refine lv_aload_n hx hb dX6_close_26 rfl (lv_at hl 0 rfl) ?_
    refine lv_iconst (v := 2) hx hb dX6_close_27 (by decide) ?_
    refine dp_Vi hF hK hN (c_X6_fails l D G μ R S N E P B L1 L2 L3 sm kp 0 la ln sp od hs 2 _ hμ hM ) (cwV 1 hts gX6_close_X6_fails rfl rfl rfl (by decide +kernel) ⟨Nat.le_of_ble_eq_true rfl, Nat.le_of_ble_eq_true rfl⟩) (dp_recv hK hM.1 rfl) hS (fun q hq => hq) [] rfl rfl hl.1 (Nat.le_of_ble_eq_true rfl) dX6_close_28 ⟨Nat.le_of_ble_eq_true rfl, Nat.le_of_ble_eq_true rfl⟩ (fun rH6 H6 locs hp hzH6 hkH6 hS => ?_)
    obtain ⟨rfl, hM⟩ := hp
    have e0 : cClose R (nI j) = 2 := by rw [cClose, nS_ok hj, hix, if_neg (fun q => c2 (by rw [q]; decide))]
    exact W.iret hx hb hr (fun t ht hW => ⟨⟨0, H6, rfl, Or.inr ⟨by rw [e0]; decide, by rw [e0]; exact MM.of hM⟩, ht⟩, hS.F ht⟩) hS.2.2 dX6_close_31
  refine lv_aload_n hx hb dX6_close_12 rfl (lv_at hl 0 rfl) ?_
  refine lv_iconst (v := 1) hx hb dX6_close_13 (by decide) ?_
  refine dp_Vi hF hK hN (c_X6_fails l D G μ R S N E P B L1 L2 L3 sm kp 0 la ln sp od hs 1 _ hμ hM ) (cwV 1 hts gX6_close_X6_fails rfl rfl rfl (by decide +kernel) ⟨Nat.le_of_ble_eq_true rfl, Nat.le_of_ble_eq_true rfl⟩) (dp_recv hK hM.1 rfl) hS (fun q hq => hq) [] rfl rfl hl.1 (Nat.le_of_ble_eq_true rfl) dX6_close_14 ⟨Nat.le_of_ble_eq_true rfl, Nat.le_of_ble_eq_true rfl⟩ (fun rH7 H7 locs hp hzH7 hkH7 hS => ?_)
  obtain ⟨rfl, hM⟩ := hp
  have e0 : cClose R i = 1 := by rw [cClose, sS_no c1]
  exact W.iret hx hb hr (fun t ht hW => ⟨⟨0, H7, rfl, Or.inr ⟨by rw [e0]; decide, by rw [e0]; exact MM.of hM⟩, ht⟩, hS.F ht⟩) hS.2.2 dX6_close_17

set_option maxHeartbeats 600000 in
set_option maxRecDepth 100000 in
theorem c_X6_open (l : Launch) (D : va_G) (G : Nat → ClassId) (μ : Nat → Nat) (R S N E P B L1 L2 L3 : Nat → Int32) (sm kp th la ln sp od : Int32) (hs : Int64) (n : Nat) (i : Int32) (H : Heap) (hμ : inj 10 μ) (hM : MO D G μ R S N E P B L1 L2 L3 sm kp th la ln sp od hs H) (hg : gd R) (hsm : sm = nI n) (hn6 : n ≤ 6) : Met l yX6_open wsX6_open ({ frames := 6, cells := 0, slots := 0, locals := 129 } : Room) (va_Pc [.ref (μ 0), .int i] (CX D G H)) (QI (A6 μ) (fun r h => (cOpen R i = 0 ∧ fq (rst (upd R (12 + 10 * ix i) 0) (ix i)) = r ∧ MM D G μ (rst (upd R (12 + 10 * ix i) 0) (ix i)) (msv S R n) N B (nI (svn n)) kp 0 ln h) ∨ (¬ cOpen R i = 0 ∧ MM D G μ R S N B sm kp (cOpen R i) ln h))) 0 0 (A6 μ) := by
  refine Met.ofW (cc := cX6_open) (maxL := 2) (ret := (some .int)) (by decide) rfl ?_
  intro p e s m args below meth c s₁ B0 hml hv
  obtain ⟨rfl, rfl, hK, hN⟩ := hv
  have hx := B0.exec
  have hb := B0.bytes
  have hr := B0.returns
  have hts := atoms_spec (ws := wsX6_open) B0.pre
  have hown : s.vm.findClass RX6 = some m.cls := findClass_of_methodNamed B0.named
  have hlocks := B0.notSynchronized
  have hF : CallFix p m c cX6_open 2 s ([.ref (μ 0), .int i] : List Value).toArray wsX6_open RX6 := ⟨hx, hb, hml, hown, hts⟩
  have hS : va_S (A6 μ) s.heap s.heap [] := va_S.rf
  have hl := lv_entry ([.ref (μ 0), .int i]) (n := 2) (Nat.le_of_ble_eq_true rfl)
  rw [lg_entry_eq]
  generalize (lg_sl ([.ref (μ 0), .int i]) ++ List.replicate (2 - (lg_sl ([.ref (μ 0), .int i])).length) Slot.unset).toArray = ls at hl ⊢
  have hl : lv_has ls 2 [(0, .ref (μ 0)), (1, .int i)] := hl
  have hwz := gd_wz hg
  have h5 := hg.2.2.2.1
  have h6 := hg.2.2.2.2
  refine lv_aload_n hx hb dX6_open_0 rfl (lv_at hl 0 rfl) ?_
  refine lv_iconst (v := 0) hx hb dX6_open_1 (by decide) ?_
  refine dp_put (A := A6 μ) (v := .int 0) hx hb hts (dp_hin 64 rfl) tyX6 tyX6_ok nmX6 hown hK hM.1 (⟨0, by decide, rfl⟩ : A6 μ (μ 0)) hS rfl 6 (by decide) (hts (.fieldLink RX6 41 "DroopBoardModel" "thrown" "I") (List.mem_of_getElem? (i := 1) rfl)) rfl rfl rfl (Nat.le_of_ble_eq_true rfl) dX6_open_2 (fun H1 locs hH1 hzH1 hkH1 hS => ?_)
  have hM := hM.o (sm' := sm) (kp' := kp) (th' := 0) (la' := la) (ln' := ln) (sp' := sp) (od' := od) (hs' := hs) hμ hH1 hkH1
  refine lv_iload_n hx hb dX6_open_5 rfl (lv_at hl 1 rfl) ?_
  refine dp_Si hF hK hN (c_X6_isSet l D G i _) (va_cwS 1 hts gX6_open_X6_isSet rfl rfl rfl (by decide +kernel) ⟨Nat.le_of_ble_eq_true rfl, Nat.le_of_ble_eq_true rfl⟩) hS nA_i [] rfl rfl hl.1 (Nat.le_of_ble_eq_true rfl) dX6_open_6 ⟨Nat.le_of_ble_eq_true rfl, Nat.le_of_ble_eq_true rfl⟩ (fun rH2 H2 locs hp hzH2 hkH2 hS => ?_)
  obtain ⟨rfl, rfl⟩ := hp
  refine lv_if_ne (tgt := 18) hx hb dX6_open_9 (by decide) (fun c1 => ?_) (fun c1 => ?_)
  · obtain ⟨j, hj, rfl⟩ := sS_ok c1
    have hix : ix (nI j) = j := ix_nI (by omega)
    refine lv_aload_n hx hb dX6_open_18 rfl (lv_at hl 0 rfl) ?_
    refine lv_iload_n hx hb dX6_open_19 rfl (lv_at hl 1 rfl) ?_
    refine lv_iconst (v := 4) hx hb dX6_open_20 (by decide) ?_
    refine dp_Vi hF hK hN (c_X6_of l D G μ R S N E P B L1 L2 L3 sm kp 0 la ln sp od hs j 4 12 _ hμ hM hj (by decide) rfl) (cwV 2 hts gX6_open_X6_of rfl rfl rfl (by decide +kernel) ⟨Nat.le_of_ble_eq_true rfl, Nat.le_of_ble_eq_true rfl⟩) (dp_recv hK hM.1 rfl) hS nA_i [] rfl rfl hl.1 (Nat.le_of_ble_eq_true rfl) dX6_open_21 ⟨Nat.le_of_ble_eq_true rfl, Nat.le_of_ble_eq_true rfl⟩ (fun rH3 H3 locs hp hzH3 hkH3 hS => ?_)
    obtain ⟨rfl, rfl⟩ := hp
    refine lv_if_ne (tgt := 33) hx hb dX6_open_24 (by decide) (fun c2 => ?_) (fun c2 => ?_)
    · refine lv_aload_n hx hb dX6_open_33 rfl (lv_at hl 0 rfl) ?_
      refine dp_Vv hF hK hN (c_X6_save l D G μ R S N E P B L1 L2 L3 sm kp 0 la ln sp od hs n _ hμ hM hsm hn6) (cwV 0 hts gX6_open_X6_save rfl rfl rfl (by decide +kernel) ⟨Nat.le_of_ble_eq_true rfl, Nat.le_of_ble_eq_true rfl⟩) (dp_recv hK hM.1 rfl) hS (fun q hq => hq) [] rfl rfl hl.1 (Nat.le_of_ble_eq_true rfl) dX6_open_34 ⟨Nat.le_of_ble_eq_true rfl, Nat.le_of_ble_eq_true rfl⟩ (fun H4 locs hp hzH4 hkH4 hS => ?_)
      have hM := hp
      refine lv_aload_n hx hb dX6_open_37 rfl (lv_at hl 0 rfl) ?_
      refine lv_iload_n hx hb dX6_open_38 rfl (lv_at hl 1 rfl) ?_
      refine lv_iconst (v := 0) hx hb dX6_open_39 (by decide) ?_
      refine dp_Vi hF hK hN (c_X6_switchNow l D G μ R (msv S R n) N E P B L1 L2 L3 (nI (svn n)) kp 0 la ln sp od hs j 0 _ hμ hM hj (gd_wz (gd_sw hg hj (Or.inr rfl) (Or.inl rfl)))) (cwV 2 hts gX6_open_X6_switchNow rfl rfl rfl (by decide +kernel) ⟨Nat.le_of_ble_eq_true rfl, Nat.le_of_ble_eq_true rfl⟩) (dp_recv hK hM.1 rfl) hS (fun q hq => hq) [] rfl rfl hl.1 (Nat.le_of_ble_eq_true rfl) dX6_open_40 ⟨Nat.le_of_ble_eq_true rfl, Nat.le_of_ble_eq_true rfl⟩ (fun rH5 H5 locs hp hzH5 hkH5 hS => ?_)
      obtain ⟨rfl, hM⟩ := hp
      have e0 : cOpen R (nI j) = 0 := by rw [cOpen, nS_ok hj, hix, if_neg c2]
      exact W.iret hx hb hr (fun t ht hW => ⟨⟨fq (rst (upd R (12 + 10 * j) 0) j), H5, rfl, Or.inl ⟨e0, by rw [hix], by rw [hix]; exact MM.of hM⟩, ht⟩, hS.F ht⟩) hS.2.2 dX6_open_43
    refine lv_aload_n hx hb dX6_open_27 rfl (lv_at hl 0 rfl) ?_
    refine lv_iconst (v := 2) hx hb dX6_open_28 (by decide) ?_
    refine dp_Vi hF hK hN (c_X6_fails l D G μ R S N E P B L1 L2 L3 sm kp 0 la ln sp od hs 2 _ hμ hM ) (cwV 1 hts gX6_open_X6_fails rfl rfl rfl (by decide +kernel) ⟨Nat.le_of_ble_eq_true rfl, Nat.le_of_ble_eq_true rfl⟩) (dp_recv hK hM.1 rfl) hS (fun q hq => hq) [] rfl rfl hl.1 (Nat.le_of_ble_eq_true rfl) dX6_open_29 ⟨Nat.le_of_ble_eq_true rfl, Nat.le_of_ble_eq_true rfl⟩ (fun rH6 H6 locs hp hzH6 hkH6 hS => ?_)
    obtain ⟨rfl, hM⟩ := hp
    have e0 : cOpen R (nI j) = 2 := by rw [cOpen, nS_ok hj, hix, if_pos c2]
    exact W.iret hx hb hr (fun t ht hW => ⟨⟨0, H6, rfl, Or.inr ⟨by rw [e0]; decide, by rw [e0]; exact MM.of hM⟩, ht⟩, hS.F ht⟩) hS.2.2 dX6_open_32
  refine lv_aload_n hx hb dX6_open_12 rfl (lv_at hl 0 rfl) ?_
  refine lv_iconst (v := 1) hx hb dX6_open_13 (by decide) ?_
  refine dp_Vi hF hK hN (c_X6_fails l D G μ R S N E P B L1 L2 L3 sm kp 0 la ln sp od hs 1 _ hμ hM ) (cwV 1 hts gX6_open_X6_fails rfl rfl rfl (by decide +kernel) ⟨Nat.le_of_ble_eq_true rfl, Nat.le_of_ble_eq_true rfl⟩) (dp_recv hK hM.1 rfl) hS (fun q hq => hq) [] rfl rfl hl.1 (Nat.le_of_ble_eq_true rfl) dX6_open_14 ⟨Nat.le_of_ble_eq_true rfl, Nat.le_of_ble_eq_true rfl⟩ (fun rH7 H7 locs hp hzH7 hkH7 hS => ?_)
  obtain ⟨rfl, hM⟩ := hp
  have e0 : cOpen R i = 1 := by rw [cOpen, sS_no c1]
  exact W.iret hx hb hr (fun t ht hW => ⟨⟨0, H7, rfl, Or.inr ⟨by rw [e0]; decide, by rw [e0]; exact MM.of hM⟩, ht⟩, hS.F ht⟩) hS.2.2 dX6_open_17

set_option maxHeartbeats 600000 in
set_option maxRecDepth 100000 in
theorem c_X6_feeder (l : Launch) (D : va_G) (G : Nat → ClassId) (μ : Nat → Nat) (R S N E P B L1 L2 L3 : Nat → Int32) (sm kp th la ln sp od : Int32) (hs : Int64) (n : Nat) (i v : Int32) (H : Heap) (hμ : inj 10 μ) (hM : MO D G μ R S N E P B L1 L2 L3 sm kp th la ln sp od hs H) (hg : gd R) (hsm : sm = nI n) (hn6 : n ≤ 6) : Met l yX6_feeder wsX6_feeder ({ frames := 2, cells := 0, slots := 0, locals := 45 } : Room) (va_Pc [.ref (μ 0), .int i, .int v] (CX D G H)) (QI (A6 μ) (fun r h => (cFeed i v = 0 ∧ (if R (39 + 3 * ix i) = 0 then 0 else 1) = r ∧ MM D G μ (upd R (39 + 3 * ix i) v) (msv S R n) N B (nI (svn n)) kp 0 ln h) ∨ (¬ cFeed i v = 0 ∧ MM D G μ R S N B sm kp (cFeed i v) ln h))) 0 0 (A6 μ) := by
  refine Met.ofW (cc := cX6_feeder) (maxL := 3) (ret := (some .int)) (by decide) rfl ?_
  intro p e s m args below meth c s₁ B0 hml hv
  obtain ⟨rfl, rfl, hK, hN⟩ := hv
  have hx := B0.exec
  have hb := B0.bytes
  have hr := B0.returns
  have hts := atoms_spec (ws := wsX6_feeder) B0.pre
  have hown : s.vm.findClass RX6 = some m.cls := findClass_of_methodNamed B0.named
  have hlocks := B0.notSynchronized
  have hF : CallFix p m c cX6_feeder 3 s ([.ref (μ 0), .int i, .int v] : List Value).toArray wsX6_feeder RX6 := ⟨hx, hb, hml, hown, hts⟩
  have hS : va_S (A6 μ) s.heap s.heap [] := va_S.rf
  have hl := lv_entry ([.ref (μ 0), .int i, .int v]) (n := 3) (Nat.le_of_ble_eq_true rfl)
  rw [lg_entry_eq]
  generalize (lg_sl ([.ref (μ 0), .int i, .int v]) ++ List.replicate (3 - (lg_sl ([.ref (μ 0), .int i, .int v])).length) Slot.unset).toArray = ls at hl ⊢
  have hl : lv_has ls 3 [(0, .ref (μ 0)), (1, .int i), (2, .int v)] := hl
  have hwz := gd_wz hg
  have h5 := hg.2.2.2.1
  have h6 := hg.2.2.2.2
  refine lv_aload_n hx hb dX6_feeder_0 rfl (lv_at hl 0 rfl) ?_
  refine lv_iconst (v := 0) hx hb dX6_feeder_1 (by decide) ?_
  refine dp_put (A := A6 μ) (v := .int 0) hx hb hts (dp_hin 28 rfl) tyX6 tyX6_ok nmX6 hown hK hM.1 (⟨0, by decide, rfl⟩ : A6 μ (μ 0)) hS rfl 6 (by decide) (hts (.fieldLink RX6 41 "DroopBoardModel" "thrown" "I") (List.mem_of_getElem? (i := 1) rfl)) rfl rfl rfl (Nat.le_of_ble_eq_true rfl) dX6_feeder_2 (fun H1 locs hH1 hzH1 hkH1 hS => ?_)
  have hM := hM.o (sm' := sm) (kp' := kp) (th' := 0) (la' := la) (ln' := ln) (sp' := sp) (od' := od) (hs' := hs) hμ hH1 hkH1
  refine lv_iload_n hx hb dX6_feeder_5 rfl (lv_at hl 1 rfl) ?_
  refine dp_Si hF hK hN (c_X6_isFeeder l D G i _) (va_cwS 1 hts gX6_feeder_X6_isFeeder rfl rfl rfl (by decide +kernel) ⟨Nat.le_of_ble_eq_true rfl, Nat.le_of_ble_eq_true rfl⟩) hS nA_i [] rfl rfl hl.1 (Nat.le_of_ble_eq_true rfl) dX6_feeder_6 ⟨Nat.le_of_ble_eq_true rfl, Nat.le_of_ble_eq_true rfl⟩ (fun rH2 H2 locs hp hzH2 hkH2 hS => ?_)
  obtain ⟨rfl, rfl⟩ := hp
  refine lv_if_ne (tgt := 18) hx hb dX6_feeder_9 (by decide) (fun c1 => ?_) (fun c1 => ?_)
  · obtain ⟨j, hj, rfl⟩ := sF_ok c1
    have hix : ix (nI j) = j := ix_nI (by omega)
    refine lv_iload_n hx hb dX6_feeder_18 rfl (lv_at hl 2 rfl) ?_
    refine lv_iconst (v := 0) hx hb dX6_feeder_19 (by decide) ?_
    refine lv_iconst (v := 1) hx hb dX6_feeder_20 (by decide) ?_
    refine dp_Si hF hK hN (c_X6_in l D G v 0 1 _) (va_cwS 3 hts gX6_feeder_X6_in rfl rfl rfl (by decide +kernel) ⟨Nat.le_of_ble_eq_true rfl, Nat.le_of_ble_eq_true rfl⟩) hS nA_i [] rfl rfl hl.1 (Nat.le_of_ble_eq_true rfl) dX6_feeder_21 ⟨Nat.le_of_ble_eq_true rfl, Nat.le_of_ble_eq_true rfl⟩ (fun rH3 H3 locs hp hzH3 hkH3 hS => ?_)
    obtain ⟨rfl, rfl⟩ := hp
    refine lv_if_ne (tgt := 33) hx hb dX6_feeder_24 (by decide) (fun c2 => ?_) (fun c2 => ?_)
    · refine lv_aload_n hx hb dX6_feeder_33 rfl (lv_at hl 0 rfl) ?_
      refine dp_Vv hF hK hN (c_X6_save l D G μ R S N E P B L1 L2 L3 sm kp 0 la ln sp od hs n _ hμ hM hsm hn6) (cwV 0 hts gX6_feeder_X6_save rfl rfl rfl (by decide +kernel) ⟨Nat.le_of_ble_eq_true rfl, Nat.le_of_ble_eq_true rfl⟩) (dp_recv hK hM.1 rfl) hS (fun q hq => hq) [] rfl rfl hl.1 (Nat.le_of_ble_eq_true rfl) dX6_feeder_34 ⟨Nat.le_of_ble_eq_true rfl, Nat.le_of_ble_eq_true rfl⟩ (fun H4 locs hp hzH4 hkH4 hS => ?_)
      have hM := hp
      refine lv_aload_n hx hb dX6_feeder_37 rfl (lv_at hl 0 rfl) ?_
      refine lv_iload_n hx hb dX6_feeder_38 rfl (lv_at hl 1 rfl) ?_
      refine lv_iload_n hx hb dX6_feeder_39 rfl (lv_at hl 2 rfl) ?_
      refine dp_Vi hF hK hN (c_X6_feederNow l D G μ R (msv S R n) N E P B L1 L2 L3 (nI (svn n)) kp 0 la ln sp od hs j v _ hμ hM hj) (cwV 2 hts gX6_feeder_X6_feederNow rfl rfl rfl (by decide +kernel) ⟨Nat.le_of_ble_eq_true rfl, Nat.le_of_ble_eq_true rfl⟩) (dp_recv hK hM.1 rfl) hS (fun q hq => hq) [] rfl rfl hl.1 (Nat.le_of_ble_eq_true rfl) dX6_feeder_40 ⟨Nat.le_of_ble_eq_true rfl, Nat.le_of_ble_eq_true rfl⟩ (fun rH5 H5 locs hp hzH5 hkH5 hS => ?_)
      obtain ⟨rfl, hM⟩ := hp
      have e0 : cFeed (nI j) v = 0 := by rw [cFeed, nF_ok hj, nR_ok (sR_ok c2)]
      exact W.iret hx hb hr (fun t ht hW => ⟨⟨R (39 + 3 * j), H5, rfl, Or.inl ⟨e0, by rw [hix]; exact one_z ((gd_bz hg).2 j hj), by rw [hix]; exact MM.of hM⟩, ht⟩, hS.F ht⟩) hS.2.2 dX6_feeder_43
    refine lv_aload_n hx hb dX6_feeder_27 rfl (lv_at hl 0 rfl) ?_
    refine lv_iconst (v := 2) hx hb dX6_feeder_28 (by decide) ?_
    refine dp_Vi hF hK hN (c_X6_fails l D G μ R S N E P B L1 L2 L3 sm kp 0 la ln sp od hs 2 _ hμ hM ) (cwV 1 hts gX6_feeder_X6_fails rfl rfl rfl (by decide +kernel) ⟨Nat.le_of_ble_eq_true rfl, Nat.le_of_ble_eq_true rfl⟩) (dp_recv hK hM.1 rfl) hS (fun q hq => hq) [] rfl rfl hl.1 (Nat.le_of_ble_eq_true rfl) dX6_feeder_29 ⟨Nat.le_of_ble_eq_true rfl, Nat.le_of_ble_eq_true rfl⟩ (fun rH6 H6 locs hp hzH6 hkH6 hS => ?_)
    obtain ⟨rfl, hM⟩ := hp
    have e0 : cFeed (nI j) v = 2 := by rw [cFeed, nF_ok hj, sR_no c2]
    exact W.iret hx hb hr (fun t ht hW => ⟨⟨0, H6, rfl, Or.inr ⟨by rw [e0]; decide, by rw [e0]; exact MM.of hM⟩, ht⟩, hS.F ht⟩) hS.2.2 dX6_feeder_32
  refine lv_aload_n hx hb dX6_feeder_12 rfl (lv_at hl 0 rfl) ?_
  refine lv_iconst (v := 1) hx hb dX6_feeder_13 (by decide) ?_
  refine dp_Vi hF hK hN (c_X6_fails l D G μ R S N E P B L1 L2 L3 sm kp 0 la ln sp od hs 1 _ hμ hM ) (cwV 1 hts gX6_feeder_X6_fails rfl rfl rfl (by decide +kernel) ⟨Nat.le_of_ble_eq_true rfl, Nat.le_of_ble_eq_true rfl⟩) (dp_recv hK hM.1 rfl) hS (fun q hq => hq) [] rfl rfl hl.1 (Nat.le_of_ble_eq_true rfl) dX6_feeder_14 ⟨Nat.le_of_ble_eq_true rfl, Nat.le_of_ble_eq_true rfl⟩ (fun rH7 H7 locs hp hzH7 hkH7 hS => ?_)
  obtain ⟨rfl, hM⟩ := hp
  have e0 : cFeed i v = 1 := by rw [cFeed, sF_no c1]
  exact W.iret hx hb hr (fun t ht hW => ⟨⟨0, H7, rfl, Or.inr ⟨by rw [e0]; decide, by rw [e0]; exact MM.of hM⟩, ht⟩, hS.F ht⟩) hS.2.2 dX6_feeder_17

set_option maxHeartbeats 600000 in
set_option maxRecDepth 100000 in
theorem c_X6_pass (l : Launch) (D : va_G) (G : Nat → ClassId) (μ : Nat → Nat) (R S N E P B L1 L2 L3 : Nat → Int32) (sm kp th la ln sp od : Int32) (hs : Int64) (n : Nat) (t : Int32) (H : Heap) (hμ : inj 10 μ) (hM : MO D G μ R S N E P B L1 L2 L3 sm kp th la ln sp od hs H) (hg : gd R) (hsm : sm = nI n) (hn6 : n ≤ 6) : Met l yX6_pass wsX6_pass ({ frames := 8, cells := 0, slots := 0, locals := 177 } : Room) (va_Pc [.ref (μ 0), .int t] (CX D G H)) (QI (A6 μ) (fun r h => (cPass t = 0 ∧ ptn R (ix t) = r ∧ MM D G μ (pt R (ix t)) (msv S R n) N B (nI (svn n)) kp 0 ln h) ∨ (¬ cPass t = 0 ∧ MM D G μ R S N B sm kp (cPass t) ln h))) 0 0 (A6 μ) := by
  refine Met.ofW (cc := cX6_pass) (maxL := 2) (ret := (some .int)) (by decide) rfl ?_
  intro p e s m args below meth c s₁ B0 hml hv
  obtain ⟨rfl, rfl, hK, hN⟩ := hv
  have hx := B0.exec
  have hb := B0.bytes
  have hr := B0.returns
  have hts := atoms_spec (ws := wsX6_pass) B0.pre
  have hown : s.vm.findClass RX6 = some m.cls := findClass_of_methodNamed B0.named
  have hlocks := B0.notSynchronized
  have hF : CallFix p m c cX6_pass 2 s ([.ref (μ 0), .int t] : List Value).toArray wsX6_pass RX6 := ⟨hx, hb, hml, hown, hts⟩
  have hS : va_S (A6 μ) s.heap s.heap [] := va_S.rf
  have hl := lv_entry ([.ref (μ 0), .int t]) (n := 2) (Nat.le_of_ble_eq_true rfl)
  rw [lg_entry_eq]
  generalize (lg_sl ([.ref (μ 0), .int t]) ++ List.replicate (2 - (lg_sl ([.ref (μ 0), .int t])).length) Slot.unset).toArray = ls at hl ⊢
  have hl : lv_has ls 2 [(0, .ref (μ 0)), (1, .int t)] := hl
  have hwz := gd_wz hg
  have h5 := hg.2.2.2.1
  have h6 := hg.2.2.2.2
  refine lv_aload_n hx hb dX6_pass_0 rfl (lv_at hl 0 rfl) ?_
  refine lv_iconst (v := 0) hx hb dX6_pass_1 (by decide) ?_
  refine dp_put (A := A6 μ) (v := .int 0) hx hb hts (dp_hin 87 rfl) tyX6 tyX6_ok nmX6 hown hK hM.1 (⟨0, by decide, rfl⟩ : A6 μ (μ 0)) hS rfl 6 (by decide) (hts (.fieldLink RX6 41 "DroopBoardModel" "thrown" "I") (List.mem_of_getElem? (i := 1) rfl)) rfl rfl rfl (Nat.le_of_ble_eq_true rfl) dX6_pass_2 (fun H1 locs hH1 hzH1 hkH1 hS => ?_)
  have hM := hM.o (sm' := sm) (kp' := kp) (th' := 0) (la' := la) (ln' := ln) (sp' := sp) (od' := od) (hs' := hs) hμ hH1 hkH1
  refine lv_iload_n hx hb dX6_pass_5 rfl (lv_at hl 1 rfl) ?_
  refine lv_iconst (v := 1) hx hb dX6_pass_6 (by decide) ?_
  refine lv_bipush (v := 99) hx hb dX6_pass_7 (by decide) ?_
  refine dp_Si hF hK hN (c_X6_in l D G t 1 99 _) (va_cwS 3 hts gX6_pass_X6_in rfl rfl rfl (by decide +kernel) ⟨Nat.le_of_ble_eq_true rfl, Nat.le_of_ble_eq_true rfl⟩) hS nA_i [] rfl rfl hl.1 (Nat.le_of_ble_eq_true rfl) dX6_pass_9 ⟨Nat.le_of_ble_eq_true rfl, Nat.le_of_ble_eq_true rfl⟩ (fun rH2 H2 locs hp hzH2 hkH2 hS => ?_)
  obtain ⟨rfl, rfl⟩ := hp
  refine lv_if_ne (tgt := 21) hx hb dX6_pass_12 (by decide) (fun c1 => ?_) (fun c1 => ?_)
  · have hc9 := sR_ok c1
    obtain ⟨j, hj, rfl⟩ := pass_nI hc9
    have hix : ix (nI j) = j := ix_nI (by omega)
    refine lv_aload_n hx hb dX6_pass_21 rfl (lv_at hl 0 rfl) ?_
    refine dp_Vv hF hK hN (c_X6_save l D G μ R S N E P B L1 L2 L3 sm kp 0 la ln sp od hs n _ hμ hM hsm hn6) (cwV 0 hts gX6_pass_X6_save rfl rfl rfl (by decide +kernel) ⟨Nat.le_of_ble_eq_true rfl, Nat.le_of_ble_eq_true rfl⟩) (dp_recv hK hM.1 rfl) hS (fun q hq => hq) [] rfl rfl hl.1 (Nat.le_of_ble_eq_true rfl) dX6_pass_22 ⟨Nat.le_of_ble_eq_true rfl, Nat.le_of_ble_eq_true rfl⟩ (fun H3 locs hp hzH3 hkH3 hS => ?_)
    have hM := hp
    refine lv_aload_n hx hb dX6_pass_25 rfl (lv_at hl 0 rfl) ?_
    refine lv_iload_n hx hb dX6_pass_26 rfl (lv_at hl 1 rfl) ?_
    refine dp_Vi hF hK hN (c_X6_passNow l D G μ R (msv S R n) N E P B L1 L2 L3 (nI (svn n)) kp 0 la ln sp od hs j _ hμ hM (by omega) (fun i _ => gd_htk hg i)) (cwV 1 hts gX6_pass_X6_passNow rfl rfl rfl (by decide +kernel) ⟨Nat.le_of_ble_eq_true rfl, Nat.le_of_ble_eq_true rfl⟩) (dp_recv hK hM.1 rfl) hS (fun q hq => hq) [] rfl rfl hl.1 (Nat.le_of_ble_eq_true rfl) dX6_pass_27 ⟨Nat.le_of_ble_eq_true rfl, Nat.le_of_ble_eq_true rfl⟩ (fun rH4 H4 locs hp hzH4 hkH4 hS => ?_)
    obtain ⟨rfl, P, la, hM⟩ := hp
    have e0 : cPass (nI j) = 0 := by rw [cPass, nR_ok hc9]
    exact W.iret hx hb hr (fun t ht hW => ⟨⟨ptn R j, H4, rfl, Or.inl ⟨e0, by rw [hix], by rw [hix]; exact MM.of hM⟩, ht⟩, hS.F ht⟩) hS.2.2 dX6_pass_30
  refine lv_aload_n hx hb dX6_pass_15 rfl (lv_at hl 0 rfl) ?_
  refine lv_iconst (v := 1) hx hb dX6_pass_16 (by decide) ?_
  refine dp_Vi hF hK hN (c_X6_fails l D G μ R S N E P B L1 L2 L3 sm kp 0 la ln sp od hs 1 _ hμ hM ) (cwV 1 hts gX6_pass_X6_fails rfl rfl rfl (by decide +kernel) ⟨Nat.le_of_ble_eq_true rfl, Nat.le_of_ble_eq_true rfl⟩) (dp_recv hK hM.1 rfl) hS (fun q hq => hq) [] rfl rfl hl.1 (Nat.le_of_ble_eq_true rfl) dX6_pass_17 ⟨Nat.le_of_ble_eq_true rfl, Nat.le_of_ble_eq_true rfl⟩ (fun rH5 H5 locs hp hzH5 hkH5 hS => ?_)
  obtain ⟨rfl, hM⟩ := hp
  have e0 : cPass t = 1 := by rw [cPass, sR_no c1]
  exact W.iret hx hb hr (fun t ht hW => ⟨⟨0, H5, rfl, Or.inr ⟨by rw [e0]; decide, by rw [e0]; exact MM.of hM⟩, ht⟩, hS.F ht⟩) hS.2.2 dX6_pass_20

set_option maxHeartbeats 600000 in
set_option maxRecDepth 100000 in
theorem c_X6_set (l : Launch) (D : va_G) (G : Nat → ClassId) (μ : Nat → Nat) (R S N E P B L1 L2 L3 : Nat → Int32) (sm kp th la ln sp od : Int32) (hs : Int64) (n : Nat) (i v : Int32) (H : Heap) (hμ : inj 10 μ) (hM : MO D G μ R S N E P B L1 L2 L3 sm kp th la ln sp od hs H) (hg : gd R) (hsm : sm = nI n) (hn6 : n ≤ 6) : Met l yX6_set wsX6_set ({ frames := 2, cells := 0, slots := 0, locals := 43 } : Room) (va_Pc [.ref (μ 0), .int i, .int v] (CX D G H)) (QI (A6 μ) (fun r h => (cSet i v = 0 ∧ R (ix i) = r ∧ MM D G μ (upd R (ix i) v) (msv S R n) N B (nI (svn n)) kp 0 ln h) ∨ (¬ cSet i v = 0 ∧ MM D G μ R S N B sm kp (cSet i v) ln h))) 0 0 (A6 μ) := by
  refine Met.ofW (cc := cX6_set) (maxL := 4) (ret := (some .int)) (by decide) rfl ?_
  intro p e s m args below meth c s₁ B0 hml hv
  obtain ⟨rfl, rfl, hK, hN⟩ := hv
  have hx := B0.exec
  have hb := B0.bytes
  have hr := B0.returns
  have hts := atoms_spec (ws := wsX6_set) B0.pre
  have hown : s.vm.findClass RX6 = some m.cls := findClass_of_methodNamed B0.named
  have hlocks := B0.notSynchronized
  have hF : CallFix p m c cX6_set 4 s ([.ref (μ 0), .int i, .int v] : List Value).toArray wsX6_set RX6 := ⟨hx, hb, hml, hown, hts⟩
  have hS : va_S (A6 μ) s.heap s.heap [] := va_S.rf
  have hl := lv_entry ([.ref (μ 0), .int i, .int v]) (n := 4) (Nat.le_of_ble_eq_true rfl)
  rw [lg_entry_eq]
  generalize (lg_sl ([.ref (μ 0), .int i, .int v]) ++ List.replicate (4 - (lg_sl ([.ref (μ 0), .int i, .int v])).length) Slot.unset).toArray = ls at hl ⊢
  have hl : lv_has ls 4 [(0, .ref (μ 0)), (1, .int i), (2, .int v)] := hl
  have hwz := gd_wz hg
  have h5 := hg.2.2.2.1
  have h6 := hg.2.2.2.2
  refine lv_aload_n hx hb dX6_set_0 rfl (lv_at hl 0 rfl) ?_
  refine lv_iconst (v := 0) hx hb dX6_set_1 (by decide) ?_
  refine dp_put (A := A6 μ) (v := .int 0) hx hb hts (dp_hin 20 rfl) tyX6 tyX6_ok nmX6 hown hK hM.1 (⟨0, by decide, rfl⟩ : A6 μ (μ 0)) hS rfl 6 (by decide) (hts (.fieldLink RX6 41 "DroopBoardModel" "thrown" "I") (List.mem_of_getElem? (i := 1) rfl)) rfl rfl rfl (Nat.le_of_ble_eq_true rfl) dX6_set_2 (fun H1 locs hH1 hzH1 hkH1 hS => ?_)
  have hM := hM.o (sm' := sm) (kp' := kp) (th' := 0) (la' := la) (ln' := ln) (sp' := sp) (od' := od) (hs' := hs) hμ hH1 hkH1
  refine lv_iload_n hx hb dX6_set_5 rfl (lv_at hl 1 rfl) ?_
  refine lv_iconst (v := 0) hx hb dX6_set_6 (by decide) ?_
  refine lv_iconst (v := 3) hx hb dX6_set_7 (by decide) ?_
  refine dp_Si hF hK hN (c_X6_in l D G i 0 3 _) (va_cwS 3 hts gX6_set_X6_in rfl rfl rfl (by decide +kernel) ⟨Nat.le_of_ble_eq_true rfl, Nat.le_of_ble_eq_true rfl⟩) hS nA_i [] rfl rfl hl.1 (Nat.le_of_ble_eq_true rfl) dX6_set_8 ⟨Nat.le_of_ble_eq_true rfl, Nat.le_of_ble_eq_true rfl⟩ (fun rH2 H2 locs hp hzH2 hkH2 hS => ?_)
  obtain ⟨rfl, rfl⟩ := hp
  refine lv_if_ne (tgt := 20) hx hb dX6_set_11 (by decide) (fun c1 => ?_) (fun c1 => ?_)
  · obtain ⟨j, hj, rfl⟩ := sF_ok c1
    have hix : ix (nI j) = j := ix_nI (by omega)
    refine lv_iload_n hx hb dX6_set_20 rfl (lv_at hl 1 rfl) ?_
    refine lv_iload_n hx hb dX6_set_21 rfl (lv_at hl 2 rfl) ?_
    refine dp_Si hF hK hN (c_X6_maySet l D G j v _ hj) (va_cwS 2 hts gX6_set_X6_maySet rfl rfl rfl (by decide +kernel) ⟨Nat.le_of_ble_eq_true rfl, Nat.le_of_ble_eq_true rfl⟩) hS nA_i [] rfl rfl hl.1 (Nat.le_of_ble_eq_true rfl) dX6_set_22 ⟨Nat.le_of_ble_eq_true rfl, Nat.le_of_ble_eq_true rfl⟩ (fun rH3 H3 locs hp hzH3 hkH3 hS => ?_)
    obtain ⟨rfl, rfl⟩ := hp
    refine lv_if_ne (tgt := 34) hx hb dX6_set_25 (by decide) (fun c2 => ?_) (fun c2 => ?_)
    · refine lv_aload_n hx hb dX6_set_34 rfl (lv_at hl 0 rfl) ?_
      refine dp_Vv hF hK hN (c_X6_save l D G μ R S N E P B L1 L2 L3 sm kp 0 la ln sp od hs n _ hμ hM hsm hn6) (cwV 0 hts gX6_set_X6_save rfl rfl rfl (by decide +kernel) ⟨Nat.le_of_ble_eq_true rfl, Nat.le_of_ble_eq_true rfl⟩) (dp_recv hK hM.1 rfl) hS (fun q hq => hq) [] rfl rfl hl.1 (Nat.le_of_ble_eq_true rfl) dX6_set_35 ⟨Nat.le_of_ble_eq_true rfl, Nat.le_of_ble_eq_true rfl⟩ (fun H4 locs hp hzH4 hkH4 hS => ?_)
      have hM := hp
      refine lv_aload_n hx hb dX6_set_38 rfl (lv_at hl 0 rfl) ?_
      refine dp_get hx hb hts (dp_hin 20 rfl) hown hK hM.1 rfl 0 (by decide) (hts (.fieldLink RX6 7 "DroopBoardModel" "row" "[I") (List.mem_of_getElem? (i := 2) rfl)) rfl dX6_set_39 ?_
      refine lv_iload_n hx hb dX6_set_42 rfl (lv_at hl 1 rfl) ?_
      refine dp_iald hx hb hK hM.2.1 0 rfl j rfl (by omega) (by decide) dX6_set_43 ?_
      refine lv_istore_n (lv' := [(3, .int (R j)), (0, .ref (μ 0)), (1, .int (nI j)), (2, .int v)]) hx hb dX6_set_44 rfl hl (by decide) rfl (fun ls hl => ?_)
      refine lv_aload_n hx hb dX6_set_45 rfl (lv_at hl 1 rfl) ?_
      refine dp_get hx hb hts (dp_hin 20 rfl) hown hK hM.1 rfl 0 (by decide) (hts (.fieldLink RX6 7 "DroopBoardModel" "row" "[I") (List.mem_of_getElem? (i := 2) rfl)) rfl dX6_set_46 ?_
      refine lv_iload_n hx hb dX6_set_49 rfl (lv_at hl 2 rfl) ?_
      refine lv_iload_n hx hb dX6_set_50 rfl (lv_at hl 3 rfl) ?_
      refine dp_iast (A := A6 μ) hx hb hK hM.2.1 (⟨1, by decide, rfl⟩ : A6 μ (μ 1)) hS 0 rfl j rfl (by omega) (by decide) dX6_set_51 (fun H5 locs hH5 hzH5 hkH5 hS => ?_)
      have hM := hM.a1 (X' := upd R j v) hμ hH5 hkH5
      refine lv_iload_n hx hb dX6_set_52 rfl (lv_at hl 0 rfl) ?_
      have e0 : cSet (nI j) v = 0 := by rw [cSet, nF_ok hj, hix, nR_ok (sR_ok c2)]
      exact W.iret hx hb hr (fun t ht hW => ⟨⟨R j, H5, rfl, Or.inl ⟨e0, by rw [hix], by rw [hix]; exact MM.of hM⟩, ht⟩, hS.F ht⟩) hS.2.2 dX6_set_53
    refine lv_aload_n hx hb dX6_set_28 rfl (lv_at hl 0 rfl) ?_
    refine lv_iconst (v := 2) hx hb dX6_set_29 (by decide) ?_
    refine dp_Vi hF hK hN (c_X6_fails l D G μ R S N E P B L1 L2 L3 sm kp 0 la ln sp od hs 2 _ hμ hM ) (cwV 1 hts gX6_set_X6_fails rfl rfl rfl (by decide +kernel) ⟨Nat.le_of_ble_eq_true rfl, Nat.le_of_ble_eq_true rfl⟩) (dp_recv hK hM.1 rfl) hS (fun q hq => hq) [] rfl rfl hl.1 (Nat.le_of_ble_eq_true rfl) dX6_set_30 ⟨Nat.le_of_ble_eq_true rfl, Nat.le_of_ble_eq_true rfl⟩ (fun rH6 H6 locs hp hzH6 hkH6 hS => ?_)
    obtain ⟨rfl, hM⟩ := hp
    have e0 : cSet (nI j) v = 2 := by rw [cSet, nF_ok hj, hix, sR_no c2]
    exact W.iret hx hb hr (fun t ht hW => ⟨⟨0, H6, rfl, Or.inr ⟨by rw [e0]; decide, by rw [e0]; exact MM.of hM⟩, ht⟩, hS.F ht⟩) hS.2.2 dX6_set_33
  refine lv_aload_n hx hb dX6_set_14 rfl (lv_at hl 0 rfl) ?_
  refine lv_iconst (v := 1) hx hb dX6_set_15 (by decide) ?_
  refine dp_Vi hF hK hN (c_X6_fails l D G μ R S N E P B L1 L2 L3 sm kp 0 la ln sp od hs 1 _ hμ hM ) (cwV 1 hts gX6_set_X6_fails rfl rfl rfl (by decide +kernel) ⟨Nat.le_of_ble_eq_true rfl, Nat.le_of_ble_eq_true rfl⟩) (dp_recv hK hM.1 rfl) hS (fun q hq => hq) [] rfl rfl hl.1 (Nat.le_of_ble_eq_true rfl) dX6_set_16 ⟨Nat.le_of_ble_eq_true rfl, Nat.le_of_ble_eq_true rfl⟩ (fun rH7 H7 locs hp hzH7 hkH7 hS => ?_)
  obtain ⟨rfl, hM⟩ := hp
  have e0 : cSet i v = 1 := by rw [cSet, sF_no c1]
  exact W.iret hx hb hr (fun t ht hW => ⟨⟨0, H7, rfl, Or.inr ⟨by rw [e0]; decide, by rw [e0]; exact MM.of hM⟩, ht⟩, hS.F ht⟩) hS.2.2 dX6_set_19

set_option maxHeartbeats 600000 in
set_option maxRecDepth 100000 in
theorem c_X6_append (l : Launch) (D : va_G) (G : Nat → ClassId) (μ : Nat → Nat) (R S N E P B L1 L2 L3 : Nat → Int32) (sm kp th la ln sp od : Int32) (hs : Int64) (len : Nat) (c9 : Int32) (H : Heap) (hμ : inj 10 μ) (hM : MO D G μ R S N E P B L1 L2 L3 sm kp th la ln sp od hs H) (hln : ln = nI len) (hl6 : len ≤ 60) : Met l yX6_append wsX6_append ({ frames := 1, cells := 0, slots := 0, locals := 22 } : Room) (va_Pc [.ref (μ 0), .int c9] (CX D G H)) (QI (A6 μ) (fun r h => (cApp c9 len = 0 ∧ nI (len + 1) = r ∧ MM D G μ R S N (upd B len c9) sm kp 0 (nI (len + 1)) h) ∨ (¬ cApp c9 len = 0 ∧ MM D G μ R S N B sm kp (cApp c9 len) (nI len) h))) 0 0 (A6 μ) := by
  refine Met.ofW (cc := cX6_append) (maxL := 2) (ret := (some .int)) (by decide) rfl ?_
  intro p e s m args below meth c s₁ B0 hml hv
  obtain ⟨rfl, rfl, hK, hN⟩ := hv
  have hx := B0.exec
  have hb := B0.bytes
  have hr := B0.returns
  have hts := atoms_spec (ws := wsX6_append) B0.pre
  have hown : s.vm.findClass RX6 = some m.cls := findClass_of_methodNamed B0.named
  have hlocks := B0.notSynchronized
  have hF : CallFix p m c cX6_append 2 s ([.ref (μ 0), .int c9] : List Value).toArray wsX6_append RX6 := ⟨hx, hb, hml, hown, hts⟩
  have hS : va_S (A6 μ) s.heap s.heap [] := va_S.rf
  have hl := lv_entry ([.ref (μ 0), .int c9]) (n := 2) (Nat.le_of_ble_eq_true rfl)
  rw [lg_entry_eq]
  generalize (lg_sl ([.ref (μ 0), .int c9]) ++ List.replicate (2 - (lg_sl ([.ref (μ 0), .int c9])).length) Slot.unset).toArray = ls at hl ⊢
  have hl : lv_has ls 2 [(0, .ref (μ 0)), (1, .int c9)] := hl
  subst hln
  refine lv_aload_n hx hb dX6_append_0 rfl (lv_at hl 0 rfl) ?_
  refine lv_iconst (v := 0) hx hb dX6_append_1 (by decide) ?_
  refine dp_put (A := A6 μ) (v := .int 0) hx hb hts (dp_hin 12 rfl) tyX6 tyX6_ok nmX6 hown hK hM.1 (⟨0, by decide, rfl⟩ : A6 μ (μ 0)) hS rfl 6 (by decide) (hts (.fieldLink RX6 41 "DroopBoardModel" "thrown" "I") (List.mem_of_getElem? (i := 1) rfl)) rfl rfl rfl (Nat.le_of_ble_eq_true rfl) dX6_append_2 (fun H1 locs hH1 hzH1 hkH1 hS => ?_)
  have hM := hM.o (sm' := sm) (kp' := kp) (th' := 0) (la' := la) (ln' := (nI len)) (sp' := sp) (od' := od) (hs' := hs) hμ hH1 hkH1
  refine lv_iload_n hx hb dX6_append_5 rfl (lv_at hl 1 rfl) ?_
  refine lv_bipush (v := 33) hx hb dX6_append_6 (by decide) ?_
  refine lv_bipush (v := 126) hx hb dX6_append_8 (by decide) ?_
  refine dp_Si hF hK hN (c_X6_in l D G c9 33 126 _) (va_cwS 3 hts gX6_append_X6_in rfl rfl rfl (by decide +kernel) ⟨Nat.le_of_ble_eq_true rfl, Nat.le_of_ble_eq_true rfl⟩) hS nA_i [] rfl rfl hl.1 (Nat.le_of_ble_eq_true rfl) dX6_append_10 ⟨Nat.le_of_ble_eq_true rfl, Nat.le_of_ble_eq_true rfl⟩ (fun rH2 H2 locs hp hzH2 hkH2 hS => ?_)
  obtain ⟨rfl, rfl⟩ := hp
  refine lv_if_ne (tgt := 22) hx hb dX6_append_13 (by decide) (fun c1 => ?_) (fun c1 => ?_)
  · refine lv_aload_n hx hb dX6_append_22 rfl (lv_at hl 0 rfl) ?_
    refine dp_get hx hb hts (dp_hin 12 rfl) hown hK hM.1 rfl 10 (by decide) (hts (.fieldLink RX6 153 "DroopBoardModel" "length" "I") (List.mem_of_getElem? (i := 2) rfl)) rfl dX6_append_23 ?_
    refine lv_bipush (v := 60) hx hb dX6_append_26 (by decide) ?_
    refine lv_icmp_ne (tgt := 37) hx hb dX6_append_28 (by decide) (fun c2 => ?_) (fun c2 => ?_)
    · have hl9 := ln_lt c2 hl6
      refine lv_aload_n hx hb dX6_append_37 rfl (lv_at hl 0 rfl) ?_
      refine dp_get hx hb hts (dp_hin 12 rfl) hown hK hM.1 rfl 9 (by decide) (hts (.fieldLink RX6 25 "DroopBoardModel" "buffer" "[I") (List.mem_of_getElem? (i := 3) rfl)) rfl dX6_append_38 ?_
      refine lv_aload_n hx hb dX6_append_41 rfl (lv_at hl 0 rfl) ?_
      refine dp_get hx hb hts (dp_hin 12 rfl) hown hK hM.1 rfl 10 (by decide) (hts (.fieldLink RX6 153 "DroopBoardModel" "length" "I") (List.mem_of_getElem? (i := 2) rfl)) rfl dX6_append_42 ?_
      refine lv_iload_n hx hb dX6_append_45 rfl (lv_at hl 1 rfl) ?_
      refine dp_iast (A := A6 μ) hx hb hK hM.2.2.2.2.2.2.1 (⟨6, by decide, rfl⟩ : A6 μ (μ 6)) hS 0 rfl len rfl (by omega) (by decide) dX6_append_46 (fun H3 locs hH3 hzH3 hkH3 hS => ?_)
      have hM := hM.a6 (X' := upd B len c9) hμ hH3 hkH3
      refine lv_aload_n hx hb dX6_append_47 rfl (lv_at hl 0 rfl) ?_
      refine lv_dup hx hb dX6_append_48 rfl ?_
      refine dp_get hx hb hts (dp_hin 12 rfl) hown hK hM.1 rfl 10 (by decide) (hts (.fieldLink RX6 153 "DroopBoardModel" "length" "I") (List.mem_of_getElem? (i := 2) rfl)) rfl dX6_append_49 ?_
      refine lv_iconst (v := 1) hx hb dX6_append_52 (by decide) ?_
      refine lv_iadd hx hb dX6_append_53 ?_
      rw [nI_1 len]
      refine dp_put (A := A6 μ) (v := .int (nI (len + 1))) hx hb hts (dp_hin 12 rfl) tyX6 tyX6_ok nmX6 hown hK hM.1 (⟨0, by decide, rfl⟩ : A6 μ (μ 0)) hS rfl 10 (by decide) (hts (.fieldLink RX6 153 "DroopBoardModel" "length" "I") (List.mem_of_getElem? (i := 2) rfl)) rfl rfl rfl (Nat.le_of_ble_eq_true rfl) dX6_append_54 (fun H4 locs hH4 hzH4 hkH4 hS => ?_)
      have hM := hM.o (sm' := sm) (kp' := kp) (th' := 0) (la' := la) (ln' := (nI (len + 1))) (sp' := sp) (od' := od) (hs' := hs) hμ hH4 hkH4
      refine lv_aload_n hx hb dX6_append_57 rfl (lv_at hl 0 rfl) ?_
      refine dp_get hx hb hts (dp_hin 12 rfl) hown hK hM.1 rfl 10 (by decide) (hts (.fieldLink RX6 153 "DroopBoardModel" "length" "I") (List.mem_of_getElem? (i := 2) rfl)) rfl dX6_append_58 ?_
      have e0 : cApp c9 len = 0 := by rw [cApp, nR_ok (sR_ok c1), if_pos hl9]
      exact W.iret hx hb hr (fun t ht hW => ⟨⟨nI (len + 1), H4, rfl, Or.inl ⟨e0, rfl, MM.of hM⟩, ht⟩, hS.F ht⟩) hS.2.2 dX6_append_61
    refine lv_aload_n hx hb dX6_append_31 rfl (lv_at hl 0 rfl) ?_
    refine lv_iconst (v := 2) hx hb dX6_append_32 (by decide) ?_
    refine dp_Vi hF hK hN (c_X6_fails l D G μ R S N E P B L1 L2 L3 sm kp 0 la (nI len) sp od hs 2 _ hμ hM ) (cwV 1 hts gX6_append_X6_fails rfl rfl rfl (by decide +kernel) ⟨Nat.le_of_ble_eq_true rfl, Nat.le_of_ble_eq_true rfl⟩) (dp_recv hK hM.1 rfl) hS (fun q hq => hq) [] rfl rfl hl.1 (Nat.le_of_ble_eq_true rfl) dX6_append_33 ⟨Nat.le_of_ble_eq_true rfl, Nat.le_of_ble_eq_true rfl⟩ (fun rH5 H5 locs hp hzH5 hkH5 hS => ?_)
    obtain ⟨rfl, hM⟩ := hp
    have e0 : cApp c9 len = 2 := by rw [cApp, nR_ok (sR_ok c1), if_neg (ln_ge c2 hl6)]
    exact W.iret hx hb hr (fun t ht hW => ⟨⟨0, H5, rfl, Or.inr ⟨by rw [e0]; decide, by rw [e0]; exact MM.of hM⟩, ht⟩, hS.F ht⟩) hS.2.2 dX6_append_36
  refine lv_aload_n hx hb dX6_append_16 rfl (lv_at hl 0 rfl) ?_
  refine lv_iconst (v := 1) hx hb dX6_append_17 (by decide) ?_
  refine dp_Vi hF hK hN (c_X6_fails l D G μ R S N E P B L1 L2 L3 sm kp 0 la (nI len) sp od hs 1 _ hμ hM ) (cwV 1 hts gX6_append_X6_fails rfl rfl rfl (by decide +kernel) ⟨Nat.le_of_ble_eq_true rfl, Nat.le_of_ble_eq_true rfl⟩) (dp_recv hK hM.1 rfl) hS (fun q hq => hq) [] rfl rfl hl.1 (Nat.le_of_ble_eq_true rfl) dX6_append_18 ⟨Nat.le_of_ble_eq_true rfl, Nat.le_of_ble_eq_true rfl⟩ (fun rH6 H6 locs hp hzH6 hkH6 hS => ?_)
  obtain ⟨rfl, hM⟩ := hp
  have e0 : cApp c9 len = 1 := by rw [cApp, sR_no c1]
  exact W.iret hx hb hr (fun t ht hW => ⟨⟨0, H6, rfl, Or.inr ⟨by rw [e0]; decide, by rw [e0]; exact MM.of hM⟩, ht⟩, hS.F ht⟩) hS.2.2 dX6_append_21

set_option maxHeartbeats 600000 in
set_option maxRecDepth 100000 in
theorem c_X6_diesel (l : Launch) (D : va_G) (G : Nat → ClassId) (μ : Nat → Nat) (R S N E P B L1 L2 L3 : Nat → Int32) (sm kp th la ln sp od : Int32) (hs : Int64) (n : Nat) (i q : Int32) (H : Heap) (hμ : inj 10 μ) (hM : MO D G μ R S N E P B L1 L2 L3 sm kp th la ln sp od hs H) (hg : gd R) (hsm : sm = nI n) (hn6 : n ≤ 6) : Met l yX6_diesel wsX6_diesel ({ frames := 8, cells := 0, slots := 0, locals := 174 } : Room) (va_Pc [.ref (μ 0), .int i, .int q] (CX D G H)) (QI (A6 μ) (fun r h => (cLook i q 12 = 0 ∧ tset R (ix i) q = r ∧ MM D G μ R S N B sm kp 0 ln h) ∨ (¬ cLook i q 12 = 0 ∧ MM D G μ R S N B sm kp (cLook i q 12) ln h))) 0 0 (A6 μ) := by
  refine Met.ofW (cc := cX6_diesel) (maxL := 3) (ret := (some .int)) (by decide) rfl ?_
  intro p e s m args below meth c s₁ B0 hml hv
  obtain ⟨rfl, rfl, hK, hN⟩ := hv
  have hx := B0.exec
  have hb := B0.bytes
  have hr := B0.returns
  have hts := atoms_spec (ws := wsX6_diesel) B0.pre
  have hown : s.vm.findClass RX6 = some m.cls := findClass_of_methodNamed B0.named
  have hlocks := B0.notSynchronized
  have hF : CallFix p m c cX6_diesel 3 s ([.ref (μ 0), .int i, .int q] : List Value).toArray wsX6_diesel RX6 := ⟨hx, hb, hml, hown, hts⟩
  have hS : va_S (A6 μ) s.heap s.heap [] := va_S.rf
  have hl := lv_entry ([.ref (μ 0), .int i, .int q]) (n := 3) (Nat.le_of_ble_eq_true rfl)
  rw [lg_entry_eq]
  generalize (lg_sl ([.ref (μ 0), .int i, .int q]) ++ List.replicate (3 - (lg_sl ([.ref (μ 0), .int i, .int q])).length) Slot.unset).toArray = ls at hl ⊢
  have hl : lv_has ls 3 [(0, .ref (μ 0)), (1, .int i), (2, .int q)] := hl
  have hwz := gd_wz hg
  have h5 := hg.2.2.2.1
  have h6 := hg.2.2.2.2
  refine lv_aload_n hx hb dX6_diesel_0 rfl (lv_at hl 0 rfl) ?_
  refine lv_iconst (v := 0) hx hb dX6_diesel_1 (by decide) ?_
  refine dp_put (A := A6 μ) (v := .int 0) hx hb hts (dp_hin 70 rfl) tyX6 tyX6_ok nmX6 hown hK hM.1 (⟨0, by decide, rfl⟩ : A6 μ (μ 0)) hS rfl 6 (by decide) (hts (.fieldLink RX6 41 "DroopBoardModel" "thrown" "I") (List.mem_of_getElem? (i := 1) rfl)) rfl rfl rfl (Nat.le_of_ble_eq_true rfl) dX6_diesel_2 (fun H1 locs hH1 hzH1 hkH1 hS => ?_)
  have hM := hM.o (sm' := sm) (kp' := kp) (th' := 0) (la' := la) (ln' := ln) (sp' := sp) (od' := od) (hs' := hs) hμ hH1 hkH1
  refine lv_iload_n hx hb dX6_diesel_5 rfl (lv_at hl 1 rfl) ?_
  refine dp_Si hF hK hN (c_X6_isSet l D G i _) (va_cwS 1 hts gX6_diesel_X6_isSet rfl rfl rfl (by decide +kernel) ⟨Nat.le_of_ble_eq_true rfl, Nat.le_of_ble_eq_true rfl⟩) hS nA_i [] rfl rfl hl.1 (Nat.le_of_ble_eq_true rfl) dX6_diesel_6 ⟨Nat.le_of_ble_eq_true rfl, Nat.le_of_ble_eq_true rfl⟩ (fun rH2 H2 locs hp hzH2 hkH2 hS => ?_)
  obtain ⟨rfl, rfl⟩ := hp
  refine lv_if_ne (tgt := 18) hx hb dX6_diesel_9 (by decide) (fun c1 => ?_) (fun c1 => ?_)
  · obtain ⟨j, hj, rfl⟩ := sS_ok c1
    have hix : ix (nI j) = j := ix_nI (by omega)
    refine lv_iload_n hx hb dX6_diesel_18 rfl (lv_at hl 2 rfl) ?_
    refine lv_iconst (v := 0) hx hb dX6_diesel_19 (by decide) ?_
    refine lv_bipush (v := 12) hx hb dX6_diesel_20 (by decide) ?_
    refine dp_Si hF hK hN (c_X6_in l D G q 0 12 _) (va_cwS 3 hts gX6_diesel_X6_in rfl rfl rfl (by decide +kernel) ⟨Nat.le_of_ble_eq_true rfl, Nat.le_of_ble_eq_true rfl⟩) hS nA_i [] rfl rfl hl.1 (Nat.le_of_ble_eq_true rfl) dX6_diesel_22 ⟨Nat.le_of_ble_eq_true rfl, Nat.le_of_ble_eq_true rfl⟩ (fun rH3 H3 locs hp hzH3 hkH3 hS => ?_)
    obtain ⟨rfl, rfl⟩ := hp
    refine lv_if_eq (tgt := 37) hx hb dX6_diesel_25 (by decide) (fun c2 => ?_) (fun c2 => ?_)
    · refine lv_aload_n hx hb dX6_diesel_37 rfl (lv_at hl 0 rfl) ?_
      refine lv_iconst (v := 2) hx hb dX6_diesel_38 (by decide) ?_
      refine dp_Vi hF hK hN (c_X6_fails l D G μ R S N E P B L1 L2 L3 sm kp 0 la ln sp od hs 2 _ hμ hM ) (cwV 1 hts gX6_diesel_X6_fails rfl rfl rfl (by decide +kernel) ⟨Nat.le_of_ble_eq_true rfl, Nat.le_of_ble_eq_true rfl⟩) (dp_recv hK hM.1 rfl) hS (fun q hq => hq) [] rfl rfl hl.1 (Nat.le_of_ble_eq_true rfl) dX6_diesel_39 ⟨Nat.le_of_ble_eq_true rfl, Nat.le_of_ble_eq_true rfl⟩ (fun rH4 H4 locs hp hzH4 hkH4 hS => ?_)
      obtain ⟨rfl, hM⟩ := hp
      have e0 : cLook (nI j) q 12 = 2 := by rw [cLook, nS_ok hj, sR_no c2]
      exact W.iret hx hb hr (fun t ht hW => ⟨⟨0, H4, rfl, Or.inr ⟨by rw [e0]; decide, by rw [e0]; exact MM.of hM⟩, ht⟩, hS.F ht⟩) hS.2.2 dX6_diesel_42
    refine lv_aload_n hx hb dX6_diesel_28 rfl (lv_at hl 0 rfl) ?_
    refine lv_iload_n hx hb dX6_diesel_29 rfl (lv_at hl 1 rfl) ?_
    refine lv_iload_n hx hb dX6_diesel_30 rfl (lv_at hl 2 rfl) ?_
    refine dp_Vi hF hK hN (c_X6_ofDiesel l D G μ R S N E P B L1 L2 L3 sm kp 0 la ln sp od hs j q _ hμ hM hwz hj (hq_12 (sR_ok c2))) (cwV 2 hts gX6_diesel_X6_ofDiesel rfl rfl rfl (by decide +kernel) ⟨Nat.le_of_ble_eq_true rfl, Nat.le_of_ble_eq_true rfl⟩) (dp_recv hK hM.1 rfl) hS (fun q hq => hq) [] rfl rfl hl.1 (Nat.le_of_ble_eq_true rfl) dX6_diesel_31 ⟨Nat.le_of_ble_eq_true rfl, Nat.le_of_ble_eq_true rfl⟩ (fun rH5 H5 locs hp hzH5 hkH5 hS => ?_)
    obtain ⟨rfl, P, la, hM⟩ := hp
    refine lv_goto (tgt := 42) hx hb dX6_diesel_34 (by decide) ?_
    have e0 : cLook (nI j) q 12 = 0 := by rw [cLook, nS_ok hj, nR_ok (sR_ok c2)]
    exact W.iret hx hb hr (fun t ht hW => ⟨⟨tset R j q, H5, rfl, Or.inl ⟨e0, by rw [hix], MM.of hM⟩, ht⟩, hS.F ht⟩) hS.2.2 dX6_diesel_42
  refine lv_aload_n hx hb dX6_diesel_12 rfl (lv_at hl 0 rfl) ?_
  refine lv_iconst (v := 1) hx hb dX6_diesel_13 (by decide) ?_
  refine dp_Vi hF hK hN (c_X6_fails l D G μ R S N E P B L1 L2 L3 sm kp 0 la ln sp od hs 1 _ hμ hM ) (cwV 1 hts gX6_diesel_X6_fails rfl rfl rfl (by decide +kernel) ⟨Nat.le_of_ble_eq_true rfl, Nat.le_of_ble_eq_true rfl⟩) (dp_recv hK hM.1 rfl) hS (fun q hq => hq) [] rfl rfl hl.1 (Nat.le_of_ble_eq_true rfl) dX6_diesel_14 ⟨Nat.le_of_ble_eq_true rfl, Nat.le_of_ble_eq_true rfl⟩ (fun rH6 H6 locs hp hzH6 hkH6 hS => ?_)
  obtain ⟨rfl, hM⟩ := hp
  have e0 : cLook i q 12 = 1 := by rw [cLook, sS_no c1]
  exact W.iret hx hb hr (fun t ht hW => ⟨⟨0, H6, rfl, Or.inr ⟨by rw [e0]; decide, by rw [e0]; exact MM.of hM⟩, ht⟩, hS.F ht⟩) hS.2.2 dX6_diesel_17

set_option maxHeartbeats 600000 in
set_option maxRecDepth 100000 in
theorem c_X6_line (l : Launch) (D : va_G) (G : Nat → ClassId) (μ : Nat → Nat) (R S N E P B L1 L2 L3 : Nat → Int32) (sm kp th la ln sp od : Int32) (hs : Int64) (n : Nat) (i q : Int32) (H : Heap) (hμ : inj 10 μ) (hM : MO D G μ R S N E P B L1 L2 L3 sm kp th la ln sp od hs H) (hg : gd R) (hsm : sm = nI n) (hn6 : n ≤ 6) : Met l yX6_line wsX6_line ({ frames := 2, cells := 0, slots := 0, locals := 42 } : Room) (va_Pc [.ref (μ 0), .int i, .int q] (CX D G H)) (QI (A6 μ) (fun r h => (cLine i q = 0 ∧ tfee R (ix i) q = r ∧ MM D G μ R S N B sm kp 0 ln h) ∨ (¬ cLine i q = 0 ∧ MM D G μ R S N B sm kp (cLine i q) ln h))) 0 0 (A6 μ) := by
  refine Met.ofW (cc := cX6_line) (maxL := 3) (ret := (some .int)) (by decide) rfl ?_
  intro p e s m args below meth c s₁ B0 hml hv
  obtain ⟨rfl, rfl, hK, hN⟩ := hv
  have hx := B0.exec
  have hb := B0.bytes
  have hr := B0.returns
  have hts := atoms_spec (ws := wsX6_line) B0.pre
  have hown : s.vm.findClass RX6 = some m.cls := findClass_of_methodNamed B0.named
  have hlocks := B0.notSynchronized
  have hF : CallFix p m c cX6_line 3 s ([.ref (μ 0), .int i, .int q] : List Value).toArray wsX6_line RX6 := ⟨hx, hb, hml, hown, hts⟩
  have hS : va_S (A6 μ) s.heap s.heap [] := va_S.rf
  have hl := lv_entry ([.ref (μ 0), .int i, .int q]) (n := 3) (Nat.le_of_ble_eq_true rfl)
  rw [lg_entry_eq]
  generalize (lg_sl ([.ref (μ 0), .int i, .int q]) ++ List.replicate (3 - (lg_sl ([.ref (μ 0), .int i, .int q])).length) Slot.unset).toArray = ls at hl ⊢
  have hl : lv_has ls 3 [(0, .ref (μ 0)), (1, .int i), (2, .int q)] := hl
  have hwz := gd_wz hg
  have h5 := hg.2.2.2.1
  have h6 := hg.2.2.2.2
  refine lv_aload_n hx hb dX6_line_0 rfl (lv_at hl 0 rfl) ?_
  refine lv_iconst (v := 0) hx hb dX6_line_1 (by decide) ?_
  refine dp_put (A := A6 μ) (v := .int 0) hx hb hts (dp_hin 18 rfl) tyX6 tyX6_ok nmX6 hown hK hM.1 (⟨0, by decide, rfl⟩ : A6 μ (μ 0)) hS rfl 6 (by decide) (hts (.fieldLink RX6 41 "DroopBoardModel" "thrown" "I") (List.mem_of_getElem? (i := 1) rfl)) rfl rfl rfl (Nat.le_of_ble_eq_true rfl) dX6_line_2 (fun H1 locs hH1 hzH1 hkH1 hS => ?_)
  have hM := hM.o (sm' := sm) (kp' := kp) (th' := 0) (la' := la) (ln' := ln) (sp' := sp) (od' := od) (hs' := hs) hμ hH1 hkH1
  refine lv_iload_n hx hb dX6_line_5 rfl (lv_at hl 1 rfl) ?_
  refine dp_Si hF hK hN (c_X6_isFeeder l D G i _) (va_cwS 1 hts gX6_line_X6_isFeeder rfl rfl rfl (by decide +kernel) ⟨Nat.le_of_ble_eq_true rfl, Nat.le_of_ble_eq_true rfl⟩) hS nA_i [] rfl rfl hl.1 (Nat.le_of_ble_eq_true rfl) dX6_line_6 ⟨Nat.le_of_ble_eq_true rfl, Nat.le_of_ble_eq_true rfl⟩ (fun rH2 H2 locs hp hzH2 hkH2 hS => ?_)
  obtain ⟨rfl, rfl⟩ := hp
  refine lv_if_ne (tgt := 18) hx hb dX6_line_9 (by decide) (fun c1 => ?_) (fun c1 => ?_)
  · obtain ⟨j, hj, rfl⟩ := sF_ok c1
    have hix : ix (nI j) = j := ix_nI (by omega)
    refine lv_iload_n hx hb dX6_line_18 rfl (lv_at hl 2 rfl) ?_
    refine lv_iconst (v := 0) hx hb dX6_line_19 (by decide) ?_
    refine lv_iconst (v := 2) hx hb dX6_line_20 (by decide) ?_
    refine dp_Si hF hK hN (c_X6_in l D G q 0 2 _) (va_cwS 3 hts gX6_line_X6_in rfl rfl rfl (by decide +kernel) ⟨Nat.le_of_ble_eq_true rfl, Nat.le_of_ble_eq_true rfl⟩) hS nA_i [] rfl rfl hl.1 (Nat.le_of_ble_eq_true rfl) dX6_line_21 ⟨Nat.le_of_ble_eq_true rfl, Nat.le_of_ble_eq_true rfl⟩ (fun rH3 H3 locs hp hzH3 hkH3 hS => ?_)
    obtain ⟨rfl, rfl⟩ := hp
    refine lv_if_eq (tgt := 36) hx hb dX6_line_24 (by decide) (fun c2 => ?_) (fun c2 => ?_)
    · refine lv_aload_n hx hb dX6_line_36 rfl (lv_at hl 0 rfl) ?_
      refine lv_iconst (v := 2) hx hb dX6_line_37 (by decide) ?_
      refine dp_Vi hF hK hN (c_X6_fails l D G μ R S N E P B L1 L2 L3 sm kp 0 la ln sp od hs 2 _ hμ hM ) (cwV 1 hts gX6_line_X6_fails rfl rfl rfl (by decide +kernel) ⟨Nat.le_of_ble_eq_true rfl, Nat.le_of_ble_eq_true rfl⟩) (dp_recv hK hM.1 rfl) hS (fun q hq => hq) [] rfl rfl hl.1 (Nat.le_of_ble_eq_true rfl) dX6_line_38 ⟨Nat.le_of_ble_eq_true rfl, Nat.le_of_ble_eq_true rfl⟩ (fun rH4 H4 locs hp hzH4 hkH4 hS => ?_)
      obtain ⟨rfl, hM⟩ := hp
      have e0 : cLine (nI j) q = 2 := by rw [cLine, nF_ok hj, sR_no c2]
      exact W.iret hx hb hr (fun t ht hW => ⟨⟨0, H4, rfl, Or.inr ⟨by rw [e0]; decide, by rw [e0]; exact MM.of hM⟩, ht⟩, hS.F ht⟩) hS.2.2 dX6_line_41
    have hc9 := sR_ok c2
    obtain ⟨w9, hw9, rfl⟩ := hw_2 hc9
    refine lv_aload_n hx hb dX6_line_27 rfl (lv_at hl 0 rfl) ?_
    refine lv_iload_n hx hb dX6_line_28 rfl (lv_at hl 1 rfl) ?_
    refine lv_iload_n hx hb dX6_line_29 rfl (lv_at hl 2 rfl) ?_
    refine dp_Vi hF hK hN (c_X6_ofLine l D G μ R S N E P B L1 L2 L3 sm kp 0 la ln sp od hs j w9 (38 + w9) _ hμ hM hj hw9 rfl) (cwV 2 hts gX6_line_X6_ofLine rfl rfl rfl (by decide +kernel) ⟨Nat.le_of_ble_eq_true rfl, Nat.le_of_ble_eq_true rfl⟩) (dp_recv hK hM.1 rfl) hS nA_i [] rfl rfl hl.1 (Nat.le_of_ble_eq_true rfl) dX6_line_30 ⟨Nat.le_of_ble_eq_true rfl, Nat.le_of_ble_eq_true rfl⟩ (fun rH5 H5 locs hp hzH5 hkH5 hS => ?_)
    obtain ⟨rfl, rfl⟩ := hp
    refine lv_goto (tgt := 41) hx hb dX6_line_33 (by decide) ?_
    have e0 : cLine (nI j) (nI w9) = 0 := by rw [cLine, nF_ok hj, nR_ok hc9]
    exact W.iret hx hb hr (fun t ht hW => ⟨⟨R (38 + w9 + 3 * j), H1, rfl, Or.inl ⟨e0, by rw [hix]; exact tfee_w hg hj hw9, MM.of hM⟩, ht⟩, hS.F ht⟩) hS.2.2 dX6_line_41
  refine lv_aload_n hx hb dX6_line_12 rfl (lv_at hl 0 rfl) ?_
  refine lv_iconst (v := 1) hx hb dX6_line_13 (by decide) ?_
  refine dp_Vi hF hK hN (c_X6_fails l D G μ R S N E P B L1 L2 L3 sm kp 0 la ln sp od hs 1 _ hμ hM ) (cwV 1 hts gX6_line_X6_fails rfl rfl rfl (by decide +kernel) ⟨Nat.le_of_ble_eq_true rfl, Nat.le_of_ble_eq_true rfl⟩) (dp_recv hK hM.1 rfl) hS (fun q hq => hq) [] rfl rfl hl.1 (Nat.le_of_ble_eq_true rfl) dX6_line_14 ⟨Nat.le_of_ble_eq_true rfl, Nat.le_of_ble_eq_true rfl⟩ (fun rH6 H6 locs hp hzH6 hkH6 hS => ?_)
  obtain ⟨rfl, hM⟩ := hp
  have e0 : cLine i q = 1 := by rw [cLine, sF_no c1]
  exact W.iret hx hb hr (fun t ht hW => ⟨⟨0, H6, rfl, Or.inr ⟨by rw [e0]; decide, by rw [e0]; exact MM.of hM⟩, ht⟩, hS.F ht⟩) hS.2.2 dX6_line_17

set_option maxHeartbeats 600000 in
set_option maxRecDepth 100000 in
theorem c_X6_count (l : Launch) (D : va_G) (G : Nat → ClassId) (μ : Nat → Nat) (R S N E P B L1 L2 L3 : Nat → Int32) (sm kp th la ln sp od : Int32) (hs : Int64) (n : Nat) (q : Int32) (H : Heap) (hμ : inj 10 μ) (hM : MO D G μ R S N E P B L1 L2 L3 sm kp th la ln sp od hs H) (hg : gd R) (hsm : sm = nI n) (hn6 : n ≤ 6) : Met l yX6_count wsX6_count ({ frames := 8, cells := 0, slots := 0, locals := 172 } : Room) (va_Pc [.ref (μ 0), .int q] (CX D G H)) (QI (A6 μ) (fun r h => (cCount q = 0 ∧ tcnt R n q = r ∧ MM D G μ R S N B sm kp 0 ln h) ∨ (¬ cCount q = 0 ∧ MM D G μ R S N B sm kp (cCount q) ln h))) 0 0 (A6 μ) := by
  refine Met.ofW (cc := cX6_count) (maxL := 2) (ret := (some .int)) (by decide) rfl ?_
  intro p e s m args below meth c s₁ B0 hml hv
  obtain ⟨rfl, rfl, hK, hN⟩ := hv
  have hx := B0.exec
  have hb := B0.bytes
  have hr := B0.returns
  have hts := atoms_spec (ws := wsX6_count) B0.pre
  have hown : s.vm.findClass RX6 = some m.cls := findClass_of_methodNamed B0.named
  have hlocks := B0.notSynchronized
  have hF : CallFix p m c cX6_count 2 s ([.ref (μ 0), .int q] : List Value).toArray wsX6_count RX6 := ⟨hx, hb, hml, hown, hts⟩
  have hS : va_S (A6 μ) s.heap s.heap [] := va_S.rf
  have hl := lv_entry ([.ref (μ 0), .int q]) (n := 2) (Nat.le_of_ble_eq_true rfl)
  rw [lg_entry_eq]
  generalize (lg_sl ([.ref (μ 0), .int q]) ++ List.replicate (2 - (lg_sl ([.ref (μ 0), .int q])).length) Slot.unset).toArray = ls at hl ⊢
  have hl : lv_has ls 2 [(0, .ref (μ 0)), (1, .int q)] := hl
  have hwz := gd_wz hg
  have h5 := hg.2.2.2.1
  have h6 := hg.2.2.2.2
  refine lv_aload_n hx hb dX6_count_0 rfl (lv_at hl 0 rfl) ?_
  refine lv_iconst (v := 0) hx hb dX6_count_1 (by decide) ?_
  refine dp_put (A := A6 μ) (v := .int 0) hx hb hts (dp_hin 62 rfl) tyX6 tyX6_ok nmX6 hown hK hM.1 (⟨0, by decide, rfl⟩ : A6 μ (μ 0)) hS rfl 6 (by decide) (hts (.fieldLink RX6 41 "DroopBoardModel" "thrown" "I") (List.mem_of_getElem? (i := 1) rfl)) rfl rfl rfl (Nat.le_of_ble_eq_true rfl) dX6_count_2 (fun H1 locs hH1 hzH1 hkH1 hS => ?_)
  have hM := hM.o (sm' := sm) (kp' := kp) (th' := 0) (la' := la) (ln' := ln) (sp' := sp) (od' := od) (hs' := hs) hμ hH1 hkH1
  refine lv_iload_n hx hb dX6_count_5 rfl (lv_at hl 1 rfl) ?_
  refine lv_iconst (v := 0) hx hb dX6_count_6 (by decide) ?_
  refine lv_bipush (v := 11) hx hb dX6_count_7 (by decide) ?_
  refine dp_Si hF hK hN (c_X6_in l D G q 0 11 _) (va_cwS 3 hts gX6_count_X6_in rfl rfl rfl (by decide +kernel) ⟨Nat.le_of_ble_eq_true rfl, Nat.le_of_ble_eq_true rfl⟩) hS nA_i [] rfl rfl hl.1 (Nat.le_of_ble_eq_true rfl) dX6_count_9 ⟨Nat.le_of_ble_eq_true rfl, Nat.le_of_ble_eq_true rfl⟩ (fun rH2 H2 locs hp hzH2 hkH2 hS => ?_)
  obtain ⟨rfl, rfl⟩ := hp
  refine lv_if_eq (tgt := 23) hx hb dX6_count_12 (by decide) (fun c1 => ?_) (fun c1 => ?_)
  · refine lv_aload_n hx hb dX6_count_23 rfl (lv_at hl 0 rfl) ?_
    refine lv_iconst (v := 1) hx hb dX6_count_24 (by decide) ?_
    refine dp_Vi hF hK hN (c_X6_fails l D G μ R S N E P B L1 L2 L3 sm kp 0 la ln sp od hs 1 _ hμ hM ) (cwV 1 hts gX6_count_X6_fails rfl rfl rfl (by decide +kernel) ⟨Nat.le_of_ble_eq_true rfl, Nat.le_of_ble_eq_true rfl⟩) (dp_recv hK hM.1 rfl) hS (fun q hq => hq) [] rfl rfl hl.1 (Nat.le_of_ble_eq_true rfl) dX6_count_25 ⟨Nat.le_of_ble_eq_true rfl, Nat.le_of_ble_eq_true rfl⟩ (fun rH3 H3 locs hp hzH3 hkH3 hS => ?_)
    obtain ⟨rfl, hM⟩ := hp
    have e0 : cCount q = 1 := by rw [cCount, sR_no c1]
    exact W.iret hx hb hr (fun t ht hW => ⟨⟨0, H3, rfl, Or.inr ⟨by rw [e0]; decide, by rw [e0]; exact MM.of hM⟩, ht⟩, hS.F ht⟩) hS.2.2 dX6_count_28
  refine lv_aload_n hx hb dX6_count_15 rfl (lv_at hl 0 rfl) ?_
  refine lv_iload_n hx hb dX6_count_16 rfl (lv_at hl 1 rfl) ?_
  refine dp_Vi hF hK hN (c_X6_number l D G μ R S N E P B L1 L2 L3 sm kp 0 la ln sp od hs n q _ hμ hM hwz h5 h6 hsm (hq_11 (sR_ok c1))) (cwV 1 hts gX6_count_X6_number rfl rfl rfl (by decide +kernel) ⟨Nat.le_of_ble_eq_true rfl, Nat.le_of_ble_eq_true rfl⟩) (dp_recv hK hM.1 rfl) hS (fun q hq => hq) [] rfl rfl hl.1 (Nat.le_of_ble_eq_true rfl) dX6_count_17 ⟨Nat.le_of_ble_eq_true rfl, Nat.le_of_ble_eq_true rfl⟩ (fun rH4 H4 locs hp hzH4 hkH4 hS => ?_)
  obtain ⟨rfl, P, la, hM⟩ := hp
  refine lv_goto (tgt := 28) hx hb dX6_count_20 (by decide) ?_
  have e0 : cCount q = 0 := by rw [cCount, nR_ok (sR_ok c1)]
  exact W.iret hx hb hr (fun t ht hW => ⟨⟨tcnt R n q, H4, rfl, Or.inl ⟨e0, rfl, MM.of hM⟩, ht⟩, hS.F ht⟩) hS.2.2 dX6_count_28

set_option maxHeartbeats 600000 in
set_option maxRecDepth 100000 in
theorem c_X6_setting (l : Launch) (D : va_G) (G : Nat → ClassId) (μ : Nat → Nat) (R S N E P B L1 L2 L3 : Nat → Int32) (sm kp th la ln sp od : Int32) (hs : Int64) (n : Nat) (i : Int32) (H : Heap) (hμ : inj 10 μ) (hM : MO D G μ R S N E P B L1 L2 L3 sm kp th la ln sp od hs H) (hg : gd R) (hsm : sm = nI n) (hn6 : n ≤ 6) : Met l yX6_setting wsX6_setting ({ frames := 1, cells := 0, slots := 0, locals := 22 } : Room) (va_Pc [.ref (μ 0), .int i] (CX D G H)) (QI (A6 μ) (fun r h => (cSet1 i = 0 ∧ R (ix i) = r ∧ MM D G μ R S N B sm kp 0 ln h) ∨ (¬ cSet1 i = 0 ∧ MM D G μ R S N B sm kp (cSet1 i) ln h))) 0 0 (A6 μ) := by
  refine Met.ofW (cc := cX6_setting) (maxL := 2) (ret := (some .int)) (by decide) rfl ?_
  intro p e s m args below meth c s₁ B0 hml hv
  obtain ⟨rfl, rfl, hK, hN⟩ := hv
  have hx := B0.exec
  have hb := B0.bytes
  have hr := B0.returns
  have hts := atoms_spec (ws := wsX6_setting) B0.pre
  have hown : s.vm.findClass RX6 = some m.cls := findClass_of_methodNamed B0.named
  have hlocks := B0.notSynchronized
  have hF : CallFix p m c cX6_setting 2 s ([.ref (μ 0), .int i] : List Value).toArray wsX6_setting RX6 := ⟨hx, hb, hml, hown, hts⟩
  have hS : va_S (A6 μ) s.heap s.heap [] := va_S.rf
  have hl := lv_entry ([.ref (μ 0), .int i]) (n := 2) (Nat.le_of_ble_eq_true rfl)
  rw [lg_entry_eq]
  generalize (lg_sl ([.ref (μ 0), .int i]) ++ List.replicate (2 - (lg_sl ([.ref (μ 0), .int i])).length) Slot.unset).toArray = ls at hl ⊢
  have hl : lv_has ls 2 [(0, .ref (μ 0)), (1, .int i)] := hl
  have hwz := gd_wz hg
  have h5 := hg.2.2.2.1
  have h6 := hg.2.2.2.2
  refine lv_aload_n hx hb dX6_setting_0 rfl (lv_at hl 0 rfl) ?_
  refine lv_iconst (v := 0) hx hb dX6_setting_1 (by decide) ?_
  refine dp_put (A := A6 μ) (v := .int 0) hx hb hts (dp_hin 11 rfl) tyX6 tyX6_ok nmX6 hown hK hM.1 (⟨0, by decide, rfl⟩ : A6 μ (μ 0)) hS rfl 6 (by decide) (hts (.fieldLink RX6 41 "DroopBoardModel" "thrown" "I") (List.mem_of_getElem? (i := 1) rfl)) rfl rfl rfl (Nat.le_of_ble_eq_true rfl) dX6_setting_2 (fun H1 locs hH1 hzH1 hkH1 hS => ?_)
  have hM := hM.o (sm' := sm) (kp' := kp) (th' := 0) (la' := la) (ln' := ln) (sp' := sp) (od' := od) (hs' := hs) hμ hH1 hkH1
  refine lv_iload_n hx hb dX6_setting_5 rfl (lv_at hl 1 rfl) ?_
  refine lv_iconst (v := 0) hx hb dX6_setting_6 (by decide) ?_
  refine lv_iconst (v := 3) hx hb dX6_setting_7 (by decide) ?_
  refine dp_Si hF hK hN (c_X6_in l D G i 0 3 _) (va_cwS 3 hts gX6_setting_X6_in rfl rfl rfl (by decide +kernel) ⟨Nat.le_of_ble_eq_true rfl, Nat.le_of_ble_eq_true rfl⟩) hS nA_i [] rfl rfl hl.1 (Nat.le_of_ble_eq_true rfl) dX6_setting_8 ⟨Nat.le_of_ble_eq_true rfl, Nat.le_of_ble_eq_true rfl⟩ (fun rH2 H2 locs hp hzH2 hkH2 hS => ?_)
  obtain ⟨rfl, rfl⟩ := hp
  refine lv_if_eq (tgt := 23) hx hb dX6_setting_11 (by decide) (fun c1 => ?_) (fun c1 => ?_)
  · refine lv_aload_n hx hb dX6_setting_23 rfl (lv_at hl 0 rfl) ?_
    refine lv_iconst (v := 1) hx hb dX6_setting_24 (by decide) ?_
    refine dp_Vi hF hK hN (c_X6_fails l D G μ R S N E P B L1 L2 L3 sm kp 0 la ln sp od hs 1 _ hμ hM ) (cwV 1 hts gX6_setting_X6_fails rfl rfl rfl (by decide +kernel) ⟨Nat.le_of_ble_eq_true rfl, Nat.le_of_ble_eq_true rfl⟩) (dp_recv hK hM.1 rfl) hS (fun q hq => hq) [] rfl rfl hl.1 (Nat.le_of_ble_eq_true rfl) dX6_setting_25 ⟨Nat.le_of_ble_eq_true rfl, Nat.le_of_ble_eq_true rfl⟩ (fun rH3 H3 locs hp hzH3 hkH3 hS => ?_)
    obtain ⟨rfl, hM⟩ := hp
    have e0 : cSet1 i = 1 := by rw [cSet1, sF_no c1]
    exact W.iret hx hb hr (fun t ht hW => ⟨⟨0, H3, rfl, Or.inr ⟨by rw [e0]; decide, by rw [e0]; exact MM.of hM⟩, ht⟩, hS.F ht⟩) hS.2.2 dX6_setting_28
  obtain ⟨j, hj, rfl⟩ := sF_ok c1
  have hix : ix (nI j) = j := ix_nI (by omega)
  refine lv_aload_n hx hb dX6_setting_14 rfl (lv_at hl 0 rfl) ?_
  refine dp_get hx hb hts (dp_hin 11 rfl) hown hK hM.1 rfl 0 (by decide) (hts (.fieldLink RX6 7 "DroopBoardModel" "row" "[I") (List.mem_of_getElem? (i := 2) rfl)) rfl dX6_setting_15 ?_
  refine lv_iload_n hx hb dX6_setting_18 rfl (lv_at hl 1 rfl) ?_
  refine dp_iald hx hb hK hM.2.1 0 rfl j rfl (by omega) (by decide) dX6_setting_19 ?_
  refine lv_goto (tgt := 28) hx hb dX6_setting_20 (by decide) ?_
  have e0 : cSet1 (nI j) = 0 := by rw [cSet1, nF_ok hj]
  exact W.iret hx hb hr (fun t ht hW => ⟨⟨R j, H1, rfl, Or.inl ⟨e0, by rw [hix], MM.of hM⟩, ht⟩, hS.F ht⟩) hS.2.2 dX6_setting_28

set_option maxHeartbeats 600000 in
set_option maxRecDepth 100000 in
theorem c_X6_ifSpeed (l : Launch) (D : va_G) (G : Nat → ClassId) (μ : Nat → Nat) (R S N E P B L1 L2 L3 : Nat → Int32) (sm kp th la ln sp od : Int32) (hs : Int64) (n : Nat) (i v q : Int32) (H : Heap) (hμ : inj 10 μ) (hM : MO D G μ R S N E P B L1 L2 L3 sm kp th la ln sp od hs H) (hg : gd R) (hsm : sm = nI n) (hn6 : n ≤ 6) : Met l yX6_ifSpeed wsX6_ifSpeed ({ frames := 8, cells := 0, slots := 0, locals := 177 } : Room) (va_Pc [.ref (μ 0), .int i, .int v, .int q] (CX D G H)) (QI (A6 μ) (fun r h => (cIf i v q = 0 ∧ tif R (ix i) v q = r ∧ MM D G μ R S N B sm kp 0 ln h) ∨ (¬ cIf i v q = 0 ∧ MM D G μ R S N B sm kp (cIf i v q) ln h))) 0 0 (A6 μ) := by
  refine Met.ofW (cc := cX6_ifSpeed) (maxL := 4) (ret := (some .int)) (by decide) rfl ?_
  intro p e s m args below meth c s₁ B0 hml hv
  obtain ⟨rfl, rfl, hK, hN⟩ := hv
  have hx := B0.exec
  have hb := B0.bytes
  have hr := B0.returns
  have hts := atoms_spec (ws := wsX6_ifSpeed) B0.pre
  have hown : s.vm.findClass RX6 = some m.cls := findClass_of_methodNamed B0.named
  have hlocks := B0.notSynchronized
  have hF : CallFix p m c cX6_ifSpeed 4 s ([.ref (μ 0), .int i, .int v, .int q] : List Value).toArray wsX6_ifSpeed RX6 := ⟨hx, hb, hml, hown, hts⟩
  have hS : va_S (A6 μ) s.heap s.heap [] := va_S.rf
  have hl := lv_entry ([.ref (μ 0), .int i, .int v, .int q]) (n := 4) (Nat.le_of_ble_eq_true rfl)
  rw [lg_entry_eq]
  generalize (lg_sl ([.ref (μ 0), .int i, .int v, .int q]) ++ List.replicate (4 - (lg_sl ([.ref (μ 0), .int i, .int v, .int q])).length) Slot.unset).toArray = ls at hl ⊢
  have hl : lv_has ls 4 [(0, .ref (μ 0)), (1, .int i), (2, .int v), (3, .int q)] := hl
  have hwz := gd_wz hg
  have h5 := hg.2.2.2.1
  have h6 := hg.2.2.2.2
  refine lv_aload_n hx hb dX6_ifSpeed_0 rfl (lv_at hl 0 rfl) ?_
  refine lv_iconst (v := 0) hx hb dX6_ifSpeed_1 (by decide) ?_
  refine dp_put (A := A6 μ) (v := .int 0) hx hb hts (dp_hin 72 rfl) tyX6 tyX6_ok nmX6 hown hK hM.1 (⟨0, by decide, rfl⟩ : A6 μ (μ 0)) hS rfl 6 (by decide) (hts (.fieldLink RX6 41 "DroopBoardModel" "thrown" "I") (List.mem_of_getElem? (i := 1) rfl)) rfl rfl rfl (Nat.le_of_ble_eq_true rfl) dX6_ifSpeed_2 (fun H1 locs hH1 hzH1 hkH1 hS => ?_)
  have hM := hM.o (sm' := sm) (kp' := kp) (th' := 0) (la' := la) (ln' := ln) (sp' := sp) (od' := od) (hs' := hs) hμ hH1 hkH1
  refine lv_iload_n hx hb dX6_ifSpeed_5 rfl (lv_at hl 1 rfl) ?_
  refine dp_Si hF hK hN (c_X6_isSet l D G i _) (va_cwS 1 hts gX6_ifSpeed_X6_isSet rfl rfl rfl (by decide +kernel) ⟨Nat.le_of_ble_eq_true rfl, Nat.le_of_ble_eq_true rfl⟩) hS nA_i [] rfl rfl hl.1 (Nat.le_of_ble_eq_true rfl) dX6_ifSpeed_6 ⟨Nat.le_of_ble_eq_true rfl, Nat.le_of_ble_eq_true rfl⟩ (fun rH2 H2 locs hp hzH2 hkH2 hS => ?_)
  obtain ⟨rfl, rfl⟩ := hp
  refine lv_if_ne (tgt := 18) hx hb dX6_ifSpeed_9 (by decide) (fun c1 => ?_) (fun c1 => ?_)
  · obtain ⟨j, hj, rfl⟩ := sS_ok c1
    have hix : ix (nI j) = j := ix_nI (by omega)
    refine lv_iload_n hx hb dX6_ifSpeed_18 rfl (lv_at hl 2 rfl) ?_
    refine lv_sipush (v := 4700) hx hb dX6_ifSpeed_19 (by decide) ?_
    refine lv_sipush (v := 5300) hx hb dX6_ifSpeed_22 (by decide) ?_
    refine dp_Si hF hK hN (c_X6_in l D G v 4700 5300 _) (va_cwS 3 hts gX6_ifSpeed_X6_in rfl rfl rfl (by decide +kernel) ⟨Nat.le_of_ble_eq_true rfl, Nat.le_of_ble_eq_true rfl⟩) hS nA_i [] rfl rfl hl.1 (Nat.le_of_ble_eq_true rfl) dX6_ifSpeed_25 ⟨Nat.le_of_ble_eq_true rfl, Nat.le_of_ble_eq_true rfl⟩ (fun rH3 H3 locs hp hzH3 hkH3 hS => ?_)
    obtain ⟨rfl, rfl⟩ := hp
    refine lv_if_eq (tgt := 50) hx hb dX6_ifSpeed_28 (by decide) (fun c2 => ?_) (fun c2 => ?_)
    · refine lv_aload_n hx hb dX6_ifSpeed_50 rfl (lv_at hl 0 rfl) ?_
      refine lv_iconst (v := 2) hx hb dX6_ifSpeed_51 (by decide) ?_
      refine dp_Vi hF hK hN (c_X6_fails l D G μ R S N E P B L1 L2 L3 sm kp 0 la ln sp od hs 2 _ hμ hM ) (cwV 1 hts gX6_ifSpeed_X6_fails rfl rfl rfl (by decide +kernel) ⟨Nat.le_of_ble_eq_true rfl, Nat.le_of_ble_eq_true rfl⟩) (dp_recv hK hM.1 rfl) hS (fun q hq => hq) [] rfl rfl hl.1 (Nat.le_of_ble_eq_true rfl) dX6_ifSpeed_52 ⟨Nat.le_of_ble_eq_true rfl, Nat.le_of_ble_eq_true rfl⟩ (fun rH4 H4 locs hp hzH4 hkH4 hS => ?_)
      obtain ⟨rfl, hM⟩ := hp
      have e0 : cIf (nI j) v q = 2 := by rw [cIf, nS_ok hj, sR_no c2]
      exact W.iret hx hb hr (fun t ht hW => ⟨⟨0, H4, rfl, Or.inr ⟨by rw [e0]; decide, by rw [e0]; exact MM.of hM⟩, ht⟩, hS.F ht⟩) hS.2.2 dX6_ifSpeed_55
    have hc9 := sR_ok c2
    obtain ⟨a9, ha9, rfl⟩ := sp_in hc9
    refine lv_iload_n hx hb dX6_ifSpeed_31 rfl (lv_at hl 3 rfl) ?_
    refine lv_iconst (v := 0) hx hb dX6_ifSpeed_32 (by decide) ?_
    refine lv_iconst (v := 2) hx hb dX6_ifSpeed_33 (by decide) ?_
    refine dp_Si hF hK hN (c_X6_in l D G q 0 2 _) (va_cwS 3 hts gX6_ifSpeed_X6_in rfl rfl rfl (by decide +kernel) ⟨Nat.le_of_ble_eq_true rfl, Nat.le_of_ble_eq_true rfl⟩) hS nA_i [] rfl rfl hl.1 (Nat.le_of_ble_eq_true rfl) dX6_ifSpeed_34 ⟨Nat.le_of_ble_eq_true rfl, Nat.le_of_ble_eq_true rfl⟩ (fun rH5 H5 locs hp hzH5 hkH5 hS => ?_)
    obtain ⟨rfl, rfl⟩ := hp
    refine lv_if_eq (tgt := 50) hx hb dX6_ifSpeed_37 (by decide) (fun c3 => ?_) (fun c3 => ?_)
    · refine lv_aload_n hx hb dX6_ifSpeed_50 rfl (lv_at hl 0 rfl) ?_
      refine lv_iconst (v := 2) hx hb dX6_ifSpeed_51 (by decide) ?_
      refine dp_Vi hF hK hN (c_X6_fails l D G μ R S N E P B L1 L2 L3 sm kp 0 la ln sp od hs 2 _ hμ hM ) (cwV 1 hts gX6_ifSpeed_X6_fails rfl rfl rfl (by decide +kernel) ⟨Nat.le_of_ble_eq_true rfl, Nat.le_of_ble_eq_true rfl⟩) (dp_recv hK hM.1 rfl) hS (fun q hq => hq) [] rfl rfl hl.1 (Nat.le_of_ble_eq_true rfl) dX6_ifSpeed_52 ⟨Nat.le_of_ble_eq_true rfl, Nat.le_of_ble_eq_true rfl⟩ (fun rH6 H6 locs hp hzH6 hkH6 hS => ?_)
      obtain ⟨rfl, hM⟩ := hp
      have e0 : cIf (nI j) (nI (4700 + a9)) q = 2 := by rw [cIf, nS_ok hj, nR_ok hc9, sR_no c3]
      exact W.iret hx hb hr (fun t ht hW => ⟨⟨0, H6, rfl, Or.inr ⟨by rw [e0]; decide, by rw [e0]; exact MM.of hM⟩, ht⟩, hS.F ht⟩) hS.2.2 dX6_ifSpeed_55
    refine lv_aload_n hx hb dX6_ifSpeed_40 rfl (lv_at hl 0 rfl) ?_
    refine lv_iload_n hx hb dX6_ifSpeed_41 rfl (lv_at hl 1 rfl) ?_
    refine lv_iload_n hx hb dX6_ifSpeed_42 rfl (lv_at hl 2 rfl) ?_
    refine lv_iload_n hx hb dX6_ifSpeed_43 rfl (lv_at hl 3 rfl) ?_
    refine dp_Vi hF hK hN (c_X6_withSpeed l D G μ R S N E P B L1 L2 L3 sm kp 0 la ln sp od hs j (nI (4700 + a9)) q _ hμ hM hj (gd_wz (gd_usp hg hj ha9))) (cwV 3 hts gX6_ifSpeed_X6_withSpeed rfl rfl rfl (by decide +kernel) ⟨Nat.le_of_ble_eq_true rfl, Nat.le_of_ble_eq_true rfl⟩) (dp_recv hK hM.1 rfl) hS (fun q hq => hq) [] rfl rfl hl.1 (Nat.le_of_ble_eq_true rfl) dX6_ifSpeed_44 ⟨Nat.le_of_ble_eq_true rfl, Nat.le_of_ble_eq_true rfl⟩ (fun rH7 H7 locs hp hzH7 hkH7 hS => ?_)
    obtain ⟨rfl, P, la, hM⟩ := hp
    refine lv_goto (tgt := 55) hx hb dX6_ifSpeed_47 (by decide) ?_
    have e0 : cIf (nI j) (nI (4700 + a9)) q = 0 := by rw [cIf, nS_ok hj, nR_ok hc9, nR_ok (sR_ok c3)]
    exact W.iret hx hb hr (fun t ht hW => ⟨⟨tif R j (nI (4700 + a9)) q, H7, rfl, Or.inl ⟨e0, by rw [hix], MM.of hM⟩, ht⟩, hS.F ht⟩) hS.2.2 dX6_ifSpeed_55
  refine lv_aload_n hx hb dX6_ifSpeed_12 rfl (lv_at hl 0 rfl) ?_
  refine lv_iconst (v := 1) hx hb dX6_ifSpeed_13 (by decide) ?_
  refine dp_Vi hF hK hN (c_X6_fails l D G μ R S N E P B L1 L2 L3 sm kp 0 la ln sp od hs 1 _ hμ hM ) (cwV 1 hts gX6_ifSpeed_X6_fails rfl rfl rfl (by decide +kernel) ⟨Nat.le_of_ble_eq_true rfl, Nat.le_of_ble_eq_true rfl⟩) (dp_recv hK hM.1 rfl) hS (fun q hq => hq) [] rfl rfl hl.1 (Nat.le_of_ble_eq_true rfl) dX6_ifSpeed_14 ⟨Nat.le_of_ble_eq_true rfl, Nat.le_of_ble_eq_true rfl⟩ (fun rH8 H8 locs hp hzH8 hkH8 hS => ?_)
  obtain ⟨rfl, hM⟩ := hp
  have e0 : cIf i v q = 1 := by rw [cIf, sS_no c1]
  exact W.iret hx hb hr (fun t ht hW => ⟨⟨0, H8, rfl, Or.inr ⟨by rw [e0]; decide, by rw [e0]; exact MM.of hM⟩, ht⟩, hS.F ht⟩) hS.2.2 dX6_ifSpeed_17

set_option maxHeartbeats 600000 in
set_option maxRecDepth 100000 in
theorem c_X6_closeIn (l : Launch) (D : va_G) (G : Nat → ClassId) (μ : Nat → Nat) (R S N E P B L1 L2 L3 : Nat → Int32) (sm kp th la ln sp od : Int32) (hs : Int64) (n : Nat) (i : Int32) (H : Heap) (hμ : inj 10 μ) (hM : MO D G μ R S N E P B L1 L2 L3 sm kp th la ln sp od hs H) (hg : gd R) (hsm : sm = nI n) (hn6 : n ≤ 6) : Met l yX6_closeIn wsX6_closeIn ({ frames := 8, cells := 0, slots := 0, locals := 177 } : Room) (va_Pc [.ref (μ 0), .int i] (CX D G H)) (QI (A6 μ) (fun r h => (cOne i = 0 ∧ cin R (ix i) = r ∧ MM D G μ R S N B sm kp 0 ln h) ∨ (¬ cOne i = 0 ∧ MM D G μ R S N B sm kp (cOne i) ln h))) 0 0 (A6 μ) := by
  refine Met.ofW (cc := cX6_closeIn) (maxL := 2) (ret := (some .int)) (by decide) rfl ?_
  intro p e s m args below meth c s₁ B0 hml hv
  obtain ⟨rfl, rfl, hK, hN⟩ := hv
  have hx := B0.exec
  have hb := B0.bytes
  have hr := B0.returns
  have hts := atoms_spec (ws := wsX6_closeIn) B0.pre
  have hown : s.vm.findClass RX6 = some m.cls := findClass_of_methodNamed B0.named
  have hlocks := B0.notSynchronized
  have hF : CallFix p m c cX6_closeIn 2 s ([.ref (μ 0), .int i] : List Value).toArray wsX6_closeIn RX6 := ⟨hx, hb, hml, hown, hts⟩
  have hS : va_S (A6 μ) s.heap s.heap [] := va_S.rf
  have hl := lv_entry ([.ref (μ 0), .int i]) (n := 2) (Nat.le_of_ble_eq_true rfl)
  rw [lg_entry_eq]
  generalize (lg_sl ([.ref (μ 0), .int i]) ++ List.replicate (2 - (lg_sl ([.ref (μ 0), .int i])).length) Slot.unset).toArray = ls at hl ⊢
  have hl : lv_has ls 2 [(0, .ref (μ 0)), (1, .int i)] := hl
  have hwz := gd_wz hg
  have h5 := hg.2.2.2.1
  have h6 := hg.2.2.2.2
  refine lv_aload_n hx hb dX6_closeIn_0 rfl (lv_at hl 0 rfl) ?_
  refine lv_iconst (v := 0) hx hb dX6_closeIn_1 (by decide) ?_
  refine dp_put (A := A6 μ) (v := .int 0) hx hb hts (dp_hin 103 rfl) tyX6 tyX6_ok nmX6 hown hK hM.1 (⟨0, by decide, rfl⟩ : A6 μ (μ 0)) hS rfl 6 (by decide) (hts (.fieldLink RX6 41 "DroopBoardModel" "thrown" "I") (List.mem_of_getElem? (i := 1) rfl)) rfl rfl rfl (Nat.le_of_ble_eq_true rfl) dX6_closeIn_2 (fun H1 locs hH1 hzH1 hkH1 hS => ?_)
  have hM := hM.o (sm' := sm) (kp' := kp) (th' := 0) (la' := la) (ln' := ln) (sp' := sp) (od' := od) (hs' := hs) hμ hH1 hkH1
  refine lv_iload_n hx hb dX6_closeIn_5 rfl (lv_at hl 1 rfl) ?_
  refine dp_Si hF hK hN (c_X6_isSet l D G i _) (va_cwS 1 hts gX6_closeIn_X6_isSet rfl rfl rfl (by decide +kernel) ⟨Nat.le_of_ble_eq_true rfl, Nat.le_of_ble_eq_true rfl⟩) hS nA_i [] rfl rfl hl.1 (Nat.le_of_ble_eq_true rfl) dX6_closeIn_6 ⟨Nat.le_of_ble_eq_true rfl, Nat.le_of_ble_eq_true rfl⟩ (fun rH2 H2 locs hp hzH2 hkH2 hS => ?_)
  obtain ⟨rfl, rfl⟩ := hp
  refine lv_if_eq (tgt := 20) hx hb dX6_closeIn_9 (by decide) (fun c1 => ?_) (fun c1 => ?_)
  · refine lv_aload_n hx hb dX6_closeIn_20 rfl (lv_at hl 0 rfl) ?_
    refine lv_iconst (v := 1) hx hb dX6_closeIn_21 (by decide) ?_
    refine dp_Vi hF hK hN (c_X6_fails l D G μ R S N E P B L1 L2 L3 sm kp 0 la ln sp od hs 1 _ hμ hM ) (cwV 1 hts gX6_closeIn_X6_fails rfl rfl rfl (by decide +kernel) ⟨Nat.le_of_ble_eq_true rfl, Nat.le_of_ble_eq_true rfl⟩) (dp_recv hK hM.1 rfl) hS (fun q hq => hq) [] rfl rfl hl.1 (Nat.le_of_ble_eq_true rfl) dX6_closeIn_22 ⟨Nat.le_of_ble_eq_true rfl, Nat.le_of_ble_eq_true rfl⟩ (fun rH3 H3 locs hp hzH3 hkH3 hS => ?_)
    obtain ⟨rfl, hM⟩ := hp
    have e0 : cOne i = 1 := by rw [cOne, sS_no c1]
    exact W.iret hx hb hr (fun t ht hW => ⟨⟨0, H3, rfl, Or.inr ⟨by rw [e0]; decide, by rw [e0]; exact MM.of hM⟩, ht⟩, hS.F ht⟩) hS.2.2 dX6_closeIn_25
  obtain ⟨j, hj, rfl⟩ := sS_ok c1
  have hix : ix (nI j) = j := ix_nI (by omega)
  refine lv_aload_n hx hb dX6_closeIn_12 rfl (lv_at hl 0 rfl) ?_
  refine lv_iload_n hx hb dX6_closeIn_13 rfl (lv_at hl 1 rfl) ?_
  refine dp_Vi hF hK hN (c_X6_closableIn l D G μ R S N E P B L1 L2 L3 sm kp 0 la ln sp od hs j _ hμ hM hj (fun i _ => gd_htk hg i)) (cwV 1 hts gX6_closeIn_X6_closableIn rfl rfl rfl (by decide +kernel) ⟨Nat.le_of_ble_eq_true rfl, Nat.le_of_ble_eq_true rfl⟩) (dp_recv hK hM.1 rfl) hS (fun q hq => hq) [] rfl rfl hl.1 (Nat.le_of_ble_eq_true rfl) dX6_closeIn_14 ⟨Nat.le_of_ble_eq_true rfl, Nat.le_of_ble_eq_true rfl⟩ (fun rH4 H4 locs hp hzH4 hkH4 hS => ?_)
  obtain ⟨rfl, P, la, hM⟩ := hp
  refine lv_goto (tgt := 25) hx hb dX6_closeIn_17 (by decide) ?_
  have e0 : cOne (nI j) = 0 := by rw [cOne, nS_ok hj]
  exact W.iret hx hb hr (fun t ht hW => ⟨⟨cin R j, H4, rfl, Or.inl ⟨e0, by rw [hix], MM.of hM⟩, ht⟩, hS.F ht⟩) hS.2.2 dX6_closeIn_25

set_option maxHeartbeats 600000 in
set_option maxRecDepth 100000 in
theorem c_X6_fairSpeed (l : Launch) (D : va_G) (G : Nat → ClassId) (μ : Nat → Nat) (R S N E P B L1 L2 L3 : Nat → Int32) (sm kp th la ln sp od : Int32) (hs : Int64) (n : Nat) (i : Int32) (H : Heap) (hμ : inj 10 μ) (hM : MO D G μ R S N E P B L1 L2 L3 sm kp th la ln sp od hs H) (hg : gd R) (hsm : sm = nI n) (hn6 : n ≤ 6) : Met l yX6_fairSpeed wsX6_fairSpeed ({ frames := 9, cells := 0, slots := 0, locals := 204 } : Room) (va_Pc [.ref (μ 0), .int i] (CX D G H)) (QI (A6 μ) (fun r h => (cOne i = 0 ∧ fair R (ix i) = r ∧ MM D G μ R S N B sm kp 0 ln h) ∨ (¬ cOne i = 0 ∧ MM D G μ R S N B sm kp (cOne i) ln h))) 0 0 (A6 μ) := by
  refine Met.ofW (cc := cX6_fairSpeed) (maxL := 2) (ret := (some .int)) (by decide) rfl ?_
  intro p e s m args below meth c s₁ B0 hml hv
  obtain ⟨rfl, rfl, hK, hN⟩ := hv
  have hx := B0.exec
  have hb := B0.bytes
  have hr := B0.returns
  have hts := atoms_spec (ws := wsX6_fairSpeed) B0.pre
  have hown : s.vm.findClass RX6 = some m.cls := findClass_of_methodNamed B0.named
  have hlocks := B0.notSynchronized
  have hF : CallFix p m c cX6_fairSpeed 2 s ([.ref (μ 0), .int i] : List Value).toArray wsX6_fairSpeed RX6 := ⟨hx, hb, hml, hown, hts⟩
  have hS : va_S (A6 μ) s.heap s.heap [] := va_S.rf
  have hl := lv_entry ([.ref (μ 0), .int i]) (n := 2) (Nat.le_of_ble_eq_true rfl)
  rw [lg_entry_eq]
  generalize (lg_sl ([.ref (μ 0), .int i]) ++ List.replicate (2 - (lg_sl ([.ref (μ 0), .int i])).length) Slot.unset).toArray = ls at hl ⊢
  have hl : lv_has ls 2 [(0, .ref (μ 0)), (1, .int i)] := hl
  have hwz := gd_wz hg
  have h5 := hg.2.2.2.1
  have h6 := hg.2.2.2.2
  refine lv_aload_n hx hb dX6_fairSpeed_0 rfl (lv_at hl 0 rfl) ?_
  refine lv_iconst (v := 0) hx hb dX6_fairSpeed_1 (by decide) ?_
  refine dp_put (A := A6 μ) (v := .int 0) hx hb hts (dp_hin 83 rfl) tyX6 tyX6_ok nmX6 hown hK hM.1 (⟨0, by decide, rfl⟩ : A6 μ (μ 0)) hS rfl 6 (by decide) (hts (.fieldLink RX6 41 "DroopBoardModel" "thrown" "I") (List.mem_of_getElem? (i := 1) rfl)) rfl rfl rfl (Nat.le_of_ble_eq_true rfl) dX6_fairSpeed_2 (fun H1 locs hH1 hzH1 hkH1 hS => ?_)
  have hM := hM.o (sm' := sm) (kp' := kp) (th' := 0) (la' := la) (ln' := ln) (sp' := sp) (od' := od) (hs' := hs) hμ hH1 hkH1
  refine lv_iload_n hx hb dX6_fairSpeed_5 rfl (lv_at hl 1 rfl) ?_
  refine dp_Si hF hK hN (c_X6_isSet l D G i _) (va_cwS 1 hts gX6_fairSpeed_X6_isSet rfl rfl rfl (by decide +kernel) ⟨Nat.le_of_ble_eq_true rfl, Nat.le_of_ble_eq_true rfl⟩) hS nA_i [] rfl rfl hl.1 (Nat.le_of_ble_eq_true rfl) dX6_fairSpeed_6 ⟨Nat.le_of_ble_eq_true rfl, Nat.le_of_ble_eq_true rfl⟩ (fun rH2 H2 locs hp hzH2 hkH2 hS => ?_)
  obtain ⟨rfl, rfl⟩ := hp
  refine lv_if_eq (tgt := 20) hx hb dX6_fairSpeed_9 (by decide) (fun c1 => ?_) (fun c1 => ?_)
  · refine lv_aload_n hx hb dX6_fairSpeed_20 rfl (lv_at hl 0 rfl) ?_
    refine lv_iconst (v := 1) hx hb dX6_fairSpeed_21 (by decide) ?_
    refine dp_Vi hF hK hN (c_X6_fails l D G μ R S N E P B L1 L2 L3 sm kp 0 la ln sp od hs 1 _ hμ hM ) (cwV 1 hts gX6_fairSpeed_X6_fails rfl rfl rfl (by decide +kernel) ⟨Nat.le_of_ble_eq_true rfl, Nat.le_of_ble_eq_true rfl⟩) (dp_recv hK hM.1 rfl) hS (fun q hq => hq) [] rfl rfl hl.1 (Nat.le_of_ble_eq_true rfl) dX6_fairSpeed_22 ⟨Nat.le_of_ble_eq_true rfl, Nat.le_of_ble_eq_true rfl⟩ (fun rH3 H3 locs hp hzH3 hkH3 hS => ?_)
    obtain ⟨rfl, hM⟩ := hp
    have e0 : cOne i = 1 := by rw [cOne, sS_no c1]
    exact W.iret hx hb hr (fun t ht hW => ⟨⟨0, H3, rfl, Or.inr ⟨by rw [e0]; decide, by rw [e0]; exact MM.of hM⟩, ht⟩, hS.F ht⟩) hS.2.2 dX6_fairSpeed_25
  obtain ⟨j, hj, rfl⟩ := sS_ok c1
  have hix : ix (nI j) = j := ix_nI (by omega)
  refine lv_aload_n hx hb dX6_fairSpeed_12 rfl (lv_at hl 0 rfl) ?_
  refine lv_iload_n hx hb dX6_fairSpeed_13 rfl (lv_at hl 1 rfl) ?_
  refine dp_Vi hF hK hN (c_X6_fairFor l D G μ R S N E P B L1 L2 L3 sm kp 0 la ln sp od hs j _ hμ hM hwz hj (rat_0 hg hj) (gd_wv hg hj)) (cwV 1 hts gX6_fairSpeed_X6_fairFor rfl rfl rfl (by decide +kernel) ⟨Nat.le_of_ble_eq_true rfl, Nat.le_of_ble_eq_true rfl⟩) (dp_recv hK hM.1 rfl) hS (fun q hq => hq) [] rfl rfl hl.1 (Nat.le_of_ble_eq_true rfl) dX6_fairSpeed_14 ⟨Nat.le_of_ble_eq_true rfl, Nat.le_of_ble_eq_true rfl⟩ (fun rH4 H4 locs hp hzH4 hkH4 hS => ?_)
  obtain ⟨rfl, P, la, hM⟩ := hp
  refine lv_goto (tgt := 25) hx hb dX6_fairSpeed_17 (by decide) ?_
  have e0 : cOne (nI j) = 0 := by rw [cOne, nS_ok hj]
  exact W.iret hx hb hr (fun t ht hW => ⟨⟨fair R j, H4, rfl, Or.inl ⟨e0, by rw [hix], MM.of hM⟩, ht⟩, hS.F ht⟩) hS.2.2 dX6_fairSpeed_25

set_option maxHeartbeats 600000 in
set_option maxRecDepth 100000 in
theorem c_X6_nextTrip (l : Launch) (D : va_G) (G : Nat → ClassId) (μ : Nat → Nat) (R S N E P B L1 L2 L3 : Nat → Int32) (sm kp th la ln sp od : Int32) (hs : Int64)  (H : Heap) (hμ : inj 10 μ) (hM : MO D G μ R S N E P B L1 L2 L3 sm kp th la ln sp od hs H) (hg : gd R) : Met l yX6_nextTrip wsX6_nextTrip ({ frames := 8, cells := 0, slots := 0, locals := 176 } : Room) (va_Pc [.ref (μ 0)] (CX D G H)) (QI (A6 μ) (fun r h => ntp R = r ∧ MM D G μ R S N B sm kp 0 ln h)) 0 0 (A6 μ) := by
  refine Met.ofW (cc := cX6_nextTrip) (maxL := 1) (ret := (some .int)) (by decide) rfl ?_
  intro p e s m args below meth c s₁ B0 hml hv
  obtain ⟨rfl, rfl, hK, hN⟩ := hv
  have hx := B0.exec
  have hb := B0.bytes
  have hr := B0.returns
  have hts := atoms_spec (ws := wsX6_nextTrip) B0.pre
  have hown : s.vm.findClass RX6 = some m.cls := findClass_of_methodNamed B0.named
  have hlocks := B0.notSynchronized
  have hF : CallFix p m c cX6_nextTrip 1 s ([.ref (μ 0)] : List Value).toArray wsX6_nextTrip RX6 := ⟨hx, hb, hml, hown, hts⟩
  have hS : va_S (A6 μ) s.heap s.heap [] := va_S.rf
  have hl := lv_entry ([.ref (μ 0)]) (n := 1) (Nat.le_of_ble_eq_true rfl)
  rw [lg_entry_eq]
  generalize (lg_sl ([.ref (μ 0)]) ++ List.replicate (1 - (lg_sl ([.ref (μ 0)])).length) Slot.unset).toArray = ls at hl ⊢
  have hl : lv_has ls 1 [(0, .ref (μ 0))] := hl
  have hwz := gd_wz hg
  refine lv_aload_n hx hb dX6_nextTrip_0 rfl (lv_at hl 0 rfl) ?_
  refine lv_iconst (v := 0) hx hb dX6_nextTrip_1 (by decide) ?_
  refine dp_put (A := A6 μ) (v := .int 0) hx hb hts (dp_hin 83 rfl) tyX6 tyX6_ok nmX6 hown hK hM.1 (⟨0, by decide, rfl⟩ : A6 μ (μ 0)) hS rfl 6 (by decide) (hts (.fieldLink RX6 41 "DroopBoardModel" "thrown" "I") (List.mem_of_getElem? (i := 1) rfl)) rfl rfl rfl (Nat.le_of_ble_eq_true rfl) dX6_nextTrip_2 (fun H1 locs hH1 hzH1 hkH1 hS => ?_)
  have hM := hM.o (sm' := sm) (kp' := kp) (th' := 0) (la' := la) (ln' := ln) (sp' := sp) (od' := od) (hs' := hs) hμ hH1 hkH1
  refine lv_aload_n hx hb dX6_nextTrip_5 rfl (lv_at hl 0 rfl) ?_
  refine dp_Vi hF hK hN (c_X6_tripIn l D G μ R S N E P B L1 L2 L3 sm kp 0 la ln sp od hs  _ hμ hM (fun i _ => gd_htk hg i)) (cwV 0 hts gX6_nextTrip_X6_tripIn rfl rfl rfl (by decide +kernel) ⟨Nat.le_of_ble_eq_true rfl, Nat.le_of_ble_eq_true rfl⟩) (dp_recv hK hM.1 rfl) hS (fun q hq => hq) [] rfl rfl hl.1 (Nat.le_of_ble_eq_true rfl) dX6_nextTrip_6 ⟨Nat.le_of_ble_eq_true rfl, Nat.le_of_ble_eq_true rfl⟩ (fun rH2 H2 locs hp hzH2 hkH2 hS => ?_)
  obtain ⟨rfl, P, la, hM⟩ := hp
  exact W.iret hx hb hr (fun t ht hW => ⟨⟨ntp R, H2, rfl, ⟨rfl, MM.of hM⟩, ht⟩, hS.F ht⟩) hS.2.2 dX6_nextTrip_9

set_option maxHeartbeats 600000 in
set_option maxRecDepth 100000 in
theorem c_X6_loadShare (l : Launch) (D : va_G) (G : Nat → ClassId) (μ : Nat → Nat) (R S N E P B L1 L2 L3 : Nat → Int32) (sm kp th la ln sp od : Int32) (hs : Int64)  (H : Heap) (hμ : inj 10 μ) (hM : MO D G μ R S N E P B L1 L2 L3 sm kp th la ln sp od hs H) (hg : gd R) : Met l yX6_loadShare wsX6_loadShare ({ frames := 5, cells := 0, slots := 0, locals := 105 } : Room) (va_Pc [.ref (μ 0)] (CX D G H)) (QD (A6 μ) (fun r h => ldsh R = r ∧ MM D G μ R S N B sm kp 0 ln h)) 0 0 (A6 μ) := by
  refine Met.ofW (cc := cX6_loadShare) (maxL := 1) (ret := (some .double)) (by decide) rfl ?_
  intro p e s m args below meth c s₁ B0 hml hv
  obtain ⟨rfl, rfl, hK, hN⟩ := hv
  have hx := B0.exec
  have hb := B0.bytes
  have hr := B0.returns
  have hts := atoms_spec (ws := wsX6_loadShare) B0.pre
  have hown : s.vm.findClass RX6 = some m.cls := findClass_of_methodNamed B0.named
  have hlocks := B0.notSynchronized
  have hF : CallFix p m c cX6_loadShare 1 s ([.ref (μ 0)] : List Value).toArray wsX6_loadShare RX6 := ⟨hx, hb, hml, hown, hts⟩
  have hS : va_S (A6 μ) s.heap s.heap [] := va_S.rf
  have hl := lv_entry ([.ref (μ 0)]) (n := 1) (Nat.le_of_ble_eq_true rfl)
  rw [lg_entry_eq]
  generalize (lg_sl ([.ref (μ 0)]) ++ List.replicate (1 - (lg_sl ([.ref (μ 0)])).length) Slot.unset).toArray = ls at hl ⊢
  have hl : lv_has ls 1 [(0, .ref (μ 0))] := hl
  have hwz := gd_wz hg
  refine lv_aload_n hx hb dX6_loadShare_0 rfl (lv_at hl 0 rfl) ?_
  refine lv_iconst (v := 0) hx hb dX6_loadShare_1 (by decide) ?_
  refine dp_put (A := A6 μ) (v := .int 0) hx hb hts (dp_hin 32 rfl) tyX6 tyX6_ok nmX6 hown hK hM.1 (⟨0, by decide, rfl⟩ : A6 μ (μ 0)) hS rfl 6 (by decide) (hts (.fieldLink RX6 41 "DroopBoardModel" "thrown" "I") (List.mem_of_getElem? (i := 1) rfl)) rfl rfl rfl (Nat.le_of_ble_eq_true rfl) dX6_loadShare_2 (fun H1 locs hH1 hzH1 hkH1 hS => ?_)
  have hM := hM.o (sm' := sm) (kp' := kp) (th' := 0) (la' := la) (ln' := ln) (sp' := sp) (od' := od) (hs' := hs) hμ hH1 hkH1
  refine lv_aload_n hx hb dX6_loadShare_5 rfl (lv_at hl 0 rfl) ?_
  refine dp_Vd hF hK hN (c_X6_share l D G μ R S N E P B L1 L2 L3 sm kp 0 la ln sp od hs  _ hμ hM hwz (rat_al hg) (gd_fd hg)) (cwV 0 hts gX6_loadShare_X6_share rfl rfl rfl (by decide +kernel) ⟨Nat.le_of_ble_eq_true rfl, Nat.le_of_ble_eq_true rfl⟩) (dp_recv hK hM.1 rfl) hS nA_i [] rfl rfl hl.1 (Nat.le_of_ble_eq_true rfl) dX6_loadShare_6 ⟨Nat.le_of_ble_eq_true rfl, Nat.le_of_ble_eq_true rfl⟩ (fun rH2 H2 locs hp hzH2 hkH2 hS => ?_)
  obtain ⟨rfl, rfl⟩ := hp
  exact W.dret hx hb hr (fun t ht hW => ⟨⟨ldsh R, H1, rfl, ⟨rfl, MM.of hM⟩, ht⟩, hS.F ht⟩) hS.2.2 dX6_loadShare_9

set_option maxHeartbeats 600000 in
set_option maxRecDepth 100000 in
theorem c_X6_meanPower (l : Launch) (D : va_G) (G : Nat → ClassId) (μ : Nat → Nat) (R S N E P B L1 L2 L3 : Nat → Int32) (sm kp th la ln sp od : Int32) (hs : Int64)  (H : Heap) (hμ : inj 10 μ) (hM : MO D G μ R S N E P B L1 L2 L3 sm kp th la ln sp od hs H) (hg : gd R) (hfdF : ¬ R 4 = 0 → vf_n32 (FP.fdiv (FP.i2f (R 7)) (FP.i2f (R 4)))) : Met l yX6_meanPower wsX6_meanPower ({ frames := 1, cells := 0, slots := 0, locals := 20 } : Room) (va_Pc [.ref (μ 0)] (CX D G H)) (QF (A6 μ) (fun r h => mnpw R = r ∧ MM D G μ R S N B sm kp 0 ln h)) 0 0 (A6 μ) := by
  refine Met.ofW (cc := cX6_meanPower) (maxL := 1) (ret := (some .float)) (by decide) rfl ?_
  intro p e s m args below meth c s₁ B0 hml hv
  obtain ⟨rfl, rfl, hK, hN⟩ := hv
  have hx := B0.exec
  have hb := B0.bytes
  have hr := B0.returns
  have hts := atoms_spec (ws := wsX6_meanPower) B0.pre
  have hown : s.vm.findClass RX6 = some m.cls := findClass_of_methodNamed B0.named
  have hlocks := B0.notSynchronized
  have hF : CallFix p m c cX6_meanPower 1 s ([.ref (μ 0)] : List Value).toArray wsX6_meanPower RX6 := ⟨hx, hb, hml, hown, hts⟩
  have hS : va_S (A6 μ) s.heap s.heap [] := va_S.rf
  have hl := lv_entry ([.ref (μ 0)]) (n := 1) (Nat.le_of_ble_eq_true rfl)
  rw [lg_entry_eq]
  generalize (lg_sl ([.ref (μ 0)]) ++ List.replicate (1 - (lg_sl ([.ref (μ 0)])).length) Slot.unset).toArray = ls at hl ⊢
  have hl : lv_has ls 1 [(0, .ref (μ 0))] := hl
  have hwz := gd_wz hg
  refine lv_aload_n hx hb dX6_meanPower_0 rfl (lv_at hl 0 rfl) ?_
  refine lv_iconst (v := 0) hx hb dX6_meanPower_1 (by decide) ?_
  refine dp_put (A := A6 μ) (v := .int 0) hx hb hts (dp_hin 8 rfl) tyX6 tyX6_ok nmX6 hown hK hM.1 (⟨0, by decide, rfl⟩ : A6 μ (μ 0)) hS rfl 6 (by decide) (hts (.fieldLink RX6 41 "DroopBoardModel" "thrown" "I") (List.mem_of_getElem? (i := 1) rfl)) rfl rfl rfl (Nat.le_of_ble_eq_true rfl) dX6_meanPower_2 (fun H1 locs hH1 hzH1 hkH1 hS => ?_)
  have hM := hM.o (sm' := sm) (kp' := kp) (th' := 0) (la' := la) (ln' := ln) (sp' := sp) (od' := od) (hs' := hs) hμ hH1 hkH1
  refine lv_aload_n hx hb dX6_meanPower_5 rfl (lv_at hl 0 rfl) ?_
  refine dp_Vf hF hK hN (c_X6_mean l D G μ R S N E P B L1 L2 L3 sm kp 0 la ln sp od hs  _ hμ hM hfdF) (cwV 0 hts gX6_meanPower_X6_mean rfl rfl rfl (by decide +kernel) ⟨Nat.le_of_ble_eq_true rfl, Nat.le_of_ble_eq_true rfl⟩) (dp_recv hK hM.1 rfl) hS nA_i [] rfl rfl hl.1 (Nat.le_of_ble_eq_true rfl) dX6_meanPower_6 ⟨Nat.le_of_ble_eq_true rfl, Nat.le_of_ble_eq_true rfl⟩ (fun rH2 H2 locs hp hzH2 hkH2 hS => ?_)
  obtain ⟨rfl, rfl⟩ := hp
  exact W.fret hx hb hr (fun t ht hW => ⟨⟨mnpw R, H1, rfl, ⟨rfl, MM.of hM⟩, ht⟩, hS.F ht⟩) hS.2.2 dX6_meanPower_9

set_option maxHeartbeats 600000 in
set_option maxRecDepth 100000 in
theorem c_X6_load_ (l : Launch) (D : va_G) (G : Nat → ClassId) (μ : Nat → Nat) (R S N E P B L1 L2 L3 : Nat → Int32) (sm kp th la ln sp od : Int32) (hs : Int64) (n : Nat) (i v : Int32) (H : Heap) (hμ : inj 10 μ) (hM : MO D G μ R S N E P B L1 L2 L3 sm kp th la ln sp od hs H) (hg : gd R) (hsm : sm = nI n) (hn6 : n ≤ 6) : Met l yX6_load_ wsX6_load_ ({ frames := 2, cells := 0, slots := 0, locals := 42 } : Room) (va_Pc [.ref (μ 0), .int i, .int v] (CX D G H)) (QI (A6 μ) (fun r h => (cLoad i v = 0 ∧ R (38 + 3 * ix i) = r ∧ MM D G μ (upd R (38 + 3 * ix i) v) (msv S R n) N B (nI (svn n)) kp 0 ln h) ∨ (¬ cLoad i v = 0 ∧ MM D G μ R S N B sm kp (cLoad i v) ln h))) 0 0 (A6 μ) := by
  refine Met.ofW (cc := cX6_load_) (maxL := 4) (ret := (some .int)) (by decide) rfl ?_
  intro p e s m args below meth c s₁ B0 hml hv
  obtain ⟨rfl, rfl, hK, hN⟩ := hv
  have hx := B0.exec
  have hb := B0.bytes
  have hr := B0.returns
  have hts := atoms_spec (ws := wsX6_load_) B0.pre
  have hown : s.vm.findClass RX6 = some m.cls := findClass_of_methodNamed B0.named
  have hlocks := B0.notSynchronized
  have hF : CallFix p m c cX6_load_ 4 s ([.ref (μ 0), .int i, .int v] : List Value).toArray wsX6_load_ RX6 := ⟨hx, hb, hml, hown, hts⟩
  have hS : va_S (A6 μ) s.heap s.heap [] := va_S.rf
  have hl := lv_entry ([.ref (μ 0), .int i, .int v]) (n := 4) (Nat.le_of_ble_eq_true rfl)
  rw [lg_entry_eq]
  generalize (lg_sl ([.ref (μ 0), .int i, .int v]) ++ List.replicate (4 - (lg_sl ([.ref (μ 0), .int i, .int v])).length) Slot.unset).toArray = ls at hl ⊢
  have hl : lv_has ls 4 [(0, .ref (μ 0)), (1, .int i), (2, .int v)] := hl
  have hwz := gd_wz hg
  have h5 := hg.2.2.2.1
  have h6 := hg.2.2.2.2
  refine lv_aload_n hx hb dX6_load__0 rfl (lv_at hl 0 rfl) ?_
  refine lv_iconst (v := 0) hx hb dX6_load__1 (by decide) ?_
  refine dp_put (A := A6 μ) (v := .int 0) hx hb hts (dp_hin 24 rfl) tyX6 tyX6_ok nmX6 hown hK hM.1 (⟨0, by decide, rfl⟩ : A6 μ (μ 0)) hS rfl 6 (by decide) (hts (.fieldLink RX6 41 "DroopBoardModel" "thrown" "I") (List.mem_of_getElem? (i := 1) rfl)) rfl rfl rfl (Nat.le_of_ble_eq_true rfl) dX6_load__2 (fun H1 locs hH1 hzH1 hkH1 hS => ?_)
  have hM := hM.o (sm' := sm) (kp' := kp) (th' := 0) (la' := la) (ln' := ln) (sp' := sp) (od' := od) (hs' := hs) hμ hH1 hkH1
  refine lv_iload_n hx hb dX6_load__5 rfl (lv_at hl 1 rfl) ?_
  refine dp_Si hF hK hN (c_X6_isFeeder l D G i _) (va_cwS 1 hts gX6_load__X6_isFeeder rfl rfl rfl (by decide +kernel) ⟨Nat.le_of_ble_eq_true rfl, Nat.le_of_ble_eq_true rfl⟩) hS nA_i [] rfl rfl hl.1 (Nat.le_of_ble_eq_true rfl) dX6_load__6 ⟨Nat.le_of_ble_eq_true rfl, Nat.le_of_ble_eq_true rfl⟩ (fun rH2 H2 locs hp hzH2 hkH2 hS => ?_)
  obtain ⟨rfl, rfl⟩ := hp
  refine lv_if_ne (tgt := 18) hx hb dX6_load__9 (by decide) (fun c1 => ?_) (fun c1 => ?_)
  · obtain ⟨j, hj, rfl⟩ := sF_ok c1
    have hix : ix (nI j) = j := ix_nI (by omega)
    refine lv_iload_n hx hb dX6_load__18 rfl (lv_at hl 2 rfl) ?_
    refine lv_iconst (v := 0) hx hb dX6_load__19 (by decide) ?_
    refine lv_sipush (v := 300) hx hb dX6_load__20 (by decide) ?_
    refine dp_Si hF hK hN (c_X6_in l D G v 0 300 _) (va_cwS 3 hts gX6_load__X6_in rfl rfl rfl (by decide +kernel) ⟨Nat.le_of_ble_eq_true rfl, Nat.le_of_ble_eq_true rfl⟩) hS nA_i [] rfl rfl hl.1 (Nat.le_of_ble_eq_true rfl) dX6_load__23 ⟨Nat.le_of_ble_eq_true rfl, Nat.le_of_ble_eq_true rfl⟩ (fun rH3 H3 locs hp hzH3 hkH3 hS => ?_)
    obtain ⟨rfl, rfl⟩ := hp
    refine lv_if_ne (tgt := 35) hx hb dX6_load__26 (by decide) (fun c2 => ?_) (fun c2 => ?_)
    · refine lv_aload_n hx hb dX6_load__35 rfl (lv_at hl 0 rfl) ?_
      refine dp_Vv hF hK hN (c_X6_save l D G μ R S N E P B L1 L2 L3 sm kp 0 la ln sp od hs n _ hμ hM hsm hn6) (cwV 0 hts gX6_load__X6_save rfl rfl rfl (by decide +kernel) ⟨Nat.le_of_ble_eq_true rfl, Nat.le_of_ble_eq_true rfl⟩) (dp_recv hK hM.1 rfl) hS (fun q hq => hq) [] rfl rfl hl.1 (Nat.le_of_ble_eq_true rfl) dX6_load__36 ⟨Nat.le_of_ble_eq_true rfl, Nat.le_of_ble_eq_true rfl⟩ (fun H4 locs hp hzH4 hkH4 hS => ?_)
      have hM := hp
      refine lv_aload_n hx hb dX6_load__39 rfl (lv_at hl 0 rfl) ?_
      refine lv_iload_n hx hb dX6_load__40 rfl (lv_at hl 1 rfl) ?_
      refine lv_iconst (v := 0) hx hb dX6_load__41 (by decide) ?_
      refine dp_Vi hF hK hN (c_X6_ofLine l D G μ R (msv S R n) N E P B L1 L2 L3 (nI (svn n)) kp 0 la ln sp od hs j 0 38 _ hμ hM hj (by decide) rfl) (cwV 2 hts gX6_load__X6_ofLine rfl rfl rfl (by decide +kernel) ⟨Nat.le_of_ble_eq_true rfl, Nat.le_of_ble_eq_true rfl⟩) (dp_recv hK hM.1 rfl) hS nA_i [] rfl rfl hl.1 (Nat.le_of_ble_eq_true rfl) dX6_load__42 ⟨Nat.le_of_ble_eq_true rfl, Nat.le_of_ble_eq_true rfl⟩ (fun rH5 H5 locs hp hzH5 hkH5 hS => ?_)
      obtain ⟨rfl, rfl⟩ := hp
      refine lv_istore_n (lv' := [(3, .int (R (38 + 3 * j))), (0, .ref (μ 0)), (1, .int (nI j)), (2, .int v)]) hx hb dX6_load__45 rfl hl (by decide) rfl (fun ls hl => ?_)
      refine lv_aload_n hx hb dX6_load__46 rfl (lv_at hl 1 rfl) ?_
      refine dp_get hx hb hts (dp_hin 24 rfl) hown hK hM.1 rfl 0 (by decide) (hts (.fieldLink RX6 7 "DroopBoardModel" "row" "[I") (List.mem_of_getElem? (i := 2) rfl)) rfl dX6_load__47 ?_
      refine lv_bipush (v := 38) hx hb dX6_load__50 (by decide) ?_
      refine lv_iconst (v := 3) hx hb dX6_load__52 (by decide) ?_
      refine lv_iload_n hx hb dX6_load__53 rfl (lv_at hl 2 rfl) ?_
      refine lv_imul hx hb dX6_load__54 ?_
      refine lv_iadd hx hb dX6_load__55 ?_
      refine lv_iconst (v := 0) hx hb dX6_load__56 (by decide) ?_
      refine lv_iadd hx hb dX6_load__57 ?_
      rw [mI_l0 j]
      refine lv_iload_n hx hb dX6_load__58 rfl (lv_at hl 3 rfl) ?_
      refine dp_iast (A := A6 μ) hx hb hK hM.2.1 (⟨1, by decide, rfl⟩ : A6 μ (μ 1)) hS 0 rfl ((38 + 3 * j)) rfl (by omega) (by decide) dX6_load__59 (fun H6 locs hH6 hzH6 hkH6 hS => ?_)
      have hM := hM.a1 (X' := upd R ((38 + 3 * j)) v) hμ hH6 hkH6
      refine lv_iload_n hx hb dX6_load__60 rfl (lv_at hl 0 rfl) ?_
      have e0 : cLoad (nI j) v = 0 := by rw [cLoad, nF_ok hj, nR_ok (sR_ok c2)]
      exact W.iret hx hb hr (fun t ht hW => ⟨⟨R (38 + 3 * j), H6, rfl, Or.inl ⟨e0, by rw [hix], by rw [hix]; exact MM.of hM⟩, ht⟩, hS.F ht⟩) hS.2.2 dX6_load__61
    refine lv_aload_n hx hb dX6_load__29 rfl (lv_at hl 0 rfl) ?_
    refine lv_iconst (v := 2) hx hb dX6_load__30 (by decide) ?_
    refine dp_Vi hF hK hN (c_X6_fails l D G μ R S N E P B L1 L2 L3 sm kp 0 la ln sp od hs 2 _ hμ hM ) (cwV 1 hts gX6_load__X6_fails rfl rfl rfl (by decide +kernel) ⟨Nat.le_of_ble_eq_true rfl, Nat.le_of_ble_eq_true rfl⟩) (dp_recv hK hM.1 rfl) hS (fun q hq => hq) [] rfl rfl hl.1 (Nat.le_of_ble_eq_true rfl) dX6_load__31 ⟨Nat.le_of_ble_eq_true rfl, Nat.le_of_ble_eq_true rfl⟩ (fun rH7 H7 locs hp hzH7 hkH7 hS => ?_)
    obtain ⟨rfl, hM⟩ := hp
    have e0 : cLoad (nI j) v = 2 := by rw [cLoad, nF_ok hj, sR_no c2]
    exact W.iret hx hb hr (fun t ht hW => ⟨⟨0, H7, rfl, Or.inr ⟨by rw [e0]; decide, by rw [e0]; exact MM.of hM⟩, ht⟩, hS.F ht⟩) hS.2.2 dX6_load__34
  refine lv_aload_n hx hb dX6_load__12 rfl (lv_at hl 0 rfl) ?_
  refine lv_iconst (v := 1) hx hb dX6_load__13 (by decide) ?_
  refine dp_Vi hF hK hN (c_X6_fails l D G μ R S N E P B L1 L2 L3 sm kp 0 la ln sp od hs 1 _ hμ hM ) (cwV 1 hts gX6_load__X6_fails rfl rfl rfl (by decide +kernel) ⟨Nat.le_of_ble_eq_true rfl, Nat.le_of_ble_eq_true rfl⟩) (dp_recv hK hM.1 rfl) hS (fun q hq => hq) [] rfl rfl hl.1 (Nat.le_of_ble_eq_true rfl) dX6_load__14 ⟨Nat.le_of_ble_eq_true rfl, Nat.le_of_ble_eq_true rfl⟩ (fun rH8 H8 locs hp hzH8 hkH8 hS => ?_)
  obtain ⟨rfl, hM⟩ := hp
  have e0 : cLoad i v = 1 := by rw [cLoad, sF_no c1]
  exact W.iret hx hb hr (fun t ht hW => ⟨⟨0, H8, rfl, Or.inr ⟨by rw [e0]; decide, by rw [e0]; exact MM.of hM⟩, ht⟩, hS.F ht⟩) hS.2.2 dX6_load__17
