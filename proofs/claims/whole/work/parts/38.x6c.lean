set_option maxHeartbeats 600000 in
set_option maxRecDepth 100000 in
theorem c_X6_find (l : Launch) (D : va_G) (G : Nat → ClassId) (μ : Nat → Nat) (R S N E P B L1 L2 L3 : Nat → Int32) (sm kp th la ln sp od : Int32) (hs : Int64)  (H : Heap) (hμ : inj 10 μ) (hM : MO D G μ R S N E P B L1 L2 L3 sm kp th la ln sp od hs H) (hwz : wz R) : Met l yX6_find wsX6_find ({ frames := 5, cells := 0, slots := 0, locals := 107 } : Room) (va_Pc [.ref (μ 0)] (CX D G H)) (QV (A6 μ) (fun h => ∃ P2, pws R P2 ∧ MO D G μ R S N E P2 B L1 L2 L3 sm kp th (lk R (fq R)) ln sp od hs h)) 0 0 (A6 μ) := by
  refine Met.ofW (cc := cX6_find) (maxL := 5) (ret := none) (by decide) rfl ?_
  intro p e s m args below meth c s₁ B0 hml hv
  obtain ⟨rfl, rfl, hK, hN⟩ := hv
  have hx := B0.exec
  have hb := B0.bytes
  have hr := B0.returns
  have hts := atoms_spec (ws := wsX6_find) B0.pre
  have hown : s.vm.findClass RX6 = some m.cls := findClass_of_methodNamed B0.named
  have hlocks := B0.notSynchronized
  have hF : CallFix p m c cX6_find 5 s ([.ref (μ 0)] : List Value).toArray wsX6_find RX6 := ⟨hx, hb, hml, hown, hts⟩
  have hS : va_S (A6 μ) s.heap s.heap [] := va_S.rf
  have hl := lv_entry ([.ref (μ 0)]) (n := 5) (Nat.le_of_ble_eq_true rfl)
  rw [lg_entry_eq]
  generalize (lg_sl ([.ref (μ 0)]) ++ List.replicate (5 - (lg_sl ([.ref (μ 0)])).length) Slot.unset).toArray = ls at hl ⊢
  have hl : lv_has ls 5 [(0, .ref (μ 0))] := hl
  refine lv_aload_n hx hb dX6_find_0 rfl (lv_at hl 0 rfl) ?_
  refine dp_Vi hF hK hN (c_X6_frequency l D G μ R S N E P B L1 L2 L3 sm kp th la ln sp od hs  _ hμ hM hwz) (cwV 0 hts gX6_find_X6_frequency rfl rfl rfl (by decide +kernel) ⟨Nat.le_of_ble_eq_true rfl, Nat.le_of_ble_eq_true rfl⟩) (dp_recv hK hM.1 rfl) hS nA_i [] rfl rfl hl.1 (Nat.le_of_ble_eq_true rfl) dX6_find_1 ⟨Nat.le_of_ble_eq_true rfl, Nat.le_of_ble_eq_true rfl⟩ (fun rH1 H1 locs hp hzH1 hkH1 hS => ?_)
  obtain ⟨rfl, rfl⟩ := hp
  refine lv_istore_n (lv' := [(1, .int (fq R)), (0, .ref (μ 0))]) hx hb dX6_find_4 rfl hl (by decide) rfl (fun ls hl => ?_)
  refine lv_aload_n hx hb dX6_find_5 rfl (lv_at hl 1 rfl) ?_
  refine dp_Vi hF hK hN (c_X6_load l D G μ R S N E P B L1 L2 L3 sm kp th la ln sp od hs  _ hμ hM hwz) (cwV 0 hts gX6_find_X6_load rfl rfl rfl (by decide +kernel) ⟨Nat.le_of_ble_eq_true rfl, Nat.le_of_ble_eq_true rfl⟩) (dp_recv hK hM.1 rfl) hS nA_i [] rfl rfl hl.1 (Nat.le_of_ble_eq_true rfl) dX6_find_6 ⟨Nat.le_of_ble_eq_true rfl, Nat.le_of_ble_eq_true rfl⟩ (fun rH2 H2 locs hp hzH2 hkH2 hS => ?_)
  obtain ⟨rfl, rfl⟩ := hp
  refine lv_istore_n (lv' := [(2, .int (ld R)), (1, .int (fq R)), (0, .ref (μ 0))]) hx hb dX6_find_9 rfl hl (by decide) rfl (fun ls hl => ?_)
  refine lv_iconst (v := (-1)) hx hb dX6_find_10 (by decide) ?_
  refine lv_istore_n (lv' := [(3, .int (-1)), (2, .int (ld R)), (1, .int (fq R)), (0, .ref (μ 0))]) hx hb dX6_find_11 rfl hl (by decide) rfl (fun ls hl => ?_)
  refine lv_iconst (v := 2) hx hb dX6_find_12 (by decide) ?_
  refine lv_istore (lv' := [(4, .int 2), (3, .int (-1)), (2, .int (ld R)), (1, .int (fq R)), (0, .ref (μ 0))]) hx hb dX6_find_13 hl (by decide) rfl (fun ls hl => ?_)
  have loop15 : ∀ (m9 : Nat) (t9 : Int32) (more : Int32) (lo : Int32) (P9 : Nat → Int32) (Hh : Heap) (_ : m9 ≤ 3) (_ : t9 + 1 = nI m9) (_ : more = mq R (fq R) m9) (_ : lo = lq R m9) (_ : ∀ i, m9 ≤ i → i < 3 → P9 i = gv R i (fq R)) (_ : MO D G μ R S N E P9 B L1 L2 L3 sm kp th la ln sp od hs Hh) (locs : List Loc) (_ : va_S (A6 μ) s.heap Hh locs) (ls : Array Slot) (_ : lv_has ls 5 [(0, .ref (μ 0)), (1, .int (fq R)), (2, .int more), (3, .int lo), (4, .int t9)]), W p l e (headSpec wsX6_find ({ frames := 5, cells := 0, slots := 0, locals := 107 } : Room)).room s m ([.ref (μ 0)] : List Value).toArray below meth c Hh locs 0 0 (MQ below (QV (A6 μ) (fun h => ∃ P2, pws R P2 ∧ MO D G μ R S N E P2 B L1 L2 L3 sm kp th (lk R (fq R)) ln sp od hs h)) ([.ref (μ 0)] : List Value).toArray s 0 0 (A6 μ)) (F0 m 15 ls []) := by
    intro m9
    induction m9 with
    | zero =>
      intro t9 more lo P9 Hh hm3 ht9 hmore hlo hP9 hM locs hS ls hl
      obtain rfl : t9 = -1 := neg1 ht9
      refine lv_iload hx hb dX6_find_15 (lv_at hl 4 rfl) ?_
      refine lv_if_lt (tgt := 68) hx hb dX6_find_17 (by decide) (fun c1 => ?_) (fun c1 => absurd (by decide) c1)
      refine lv_aload_n hx hb dX6_find_68 rfl (lv_at hl 0 rfl) ?_
      refine lv_iload_n hx hb dX6_find_69 rfl (lv_at hl 2 rfl) ?_
      refine lv_if_le (tgt := 77) hx hb dX6_find_70 (by decide) (fun c2 => ?_) (fun c2 => ?_)
      · refine lv_iconst (v := 0) hx hb dX6_find_77 (by decide) ?_
        refine dp_put (A := A6 μ) (v := .int 0) hx hb hts (dp_hin 37 rfl) tyX6 tyX6_ok nmX6 hown hK hM.1 (⟨0, by decide, rfl⟩ : A6 μ (μ 0)) hS rfl 8 (by decide) (hts (.fieldLink RX6 80 "DroopBoardModel" "lack" "I") (List.mem_of_getElem? (i := 2) rfl)) rfl rfl rfl (Nat.le_of_ble_eq_true rfl) dX6_find_78 (fun H3 locs hH3 hzH3 hkH3 hS => ?_)
        have hM := hM.o (sm' := sm) (kp' := kp) (th' := th) (la' := 0) (ln' := ln) (sp' := sp) (od' := od) (hs' := hs) hμ hH3 hkH3
        refine lv_iload_n hx hb dX6_find_81 rfl (lv_at hl 2 rfl) ?_
        refine lv_if_ge (tgt := 95) hx hb dX6_find_82 (by decide) (fun c3 => ?_) (fun c3 => ?_)
        · have hlk : 0 = lk R (fq R) := by rw [← lk_m, ← hmore]; exact (if_pos c2).symm
          exact W.vret hx hb hr (fun t ht hW => ⟨⟨H3, rfl, ⟨P9, fun i hi => by rw [← pw_ge (by rw [← hmore]; exact c3)]; exact hP9 i (by omega) hi, by rw [← hlk]; exact hM⟩, ht⟩, hS.F ht⟩) hS.2.2 dX6_find_95
        have hneg : mq R (fq R) 0 < 0 := by rw [← hmore]; exact Int32.not_le.mp c3
        obtain ⟨jl, hjl, hjq⟩ := low_ex (f := fq R) hwz.1 hneg
        obtain rfl : lo = nI jl := hlo.trans hjq
        refine lv_aload_n hx hb dX6_find_85 rfl (lv_at hl 0 rfl) ?_
        refine dp_get hx hb hts (dp_hin 37 rfl) hown hK hM.1 rfl 7 (by decide) (hts (.fieldLink RX6 22 "DroopBoardModel" "powers" "[I") (List.mem_of_getElem? (i := 1) rfl)) rfl dX6_find_86 ?_
        refine lv_iload_n hx hb dX6_find_89 rfl (lv_at hl 3 rfl) ?_
        refine lv_dup2_11 hx hb dX6_find_90 rfl rfl ?_
        refine dp_iald hx hb hK hM.2.2.2.2.2.1 0 rfl jl rfl hjl (by decide) dX6_find_91 ?_
        refine lv_iload_n hx hb dX6_find_92 rfl (lv_at hl 2 rfl) ?_
        refine lv_iadd hx hb dX6_find_93 ?_
        refine dp_iast (A := A6 μ) hx hb hK hM.2.2.2.2.2.1 (⟨5, by decide, rfl⟩ : A6 μ (μ 5)) hS 0 rfl jl rfl hjl (by decide) dX6_find_94 (fun H4 locs hH4 hzH4 hkH4 hS => ?_)
        have hM := hM.a5 (X' := upd P9 jl ((P9 jl) + more)) hμ hH4 hkH4
        have hlk : 0 = lk R (fq R) := by rw [← lk_m, ← hmore]; exact (if_pos c2).symm
        exact W.vret hx hb hr (fun t ht hW => ⟨⟨H4, rfl, ⟨upd P9 jl ((P9 jl) + more), fun i hi => by rw [← pw_lt hwz.1 hwz.2.2 hneg hjq hjl hi]; by_cases q : i = jl; rw [if_pos q, q, upd_eq, hP9 jl (by omega) hjl, hmore]; rw [if_neg q, upd_ne q]; exact hP9 i (by omega) hi, by rw [← hlk]; exact hM⟩, ht⟩, hS.F ht⟩) hS.2.2 dX6_find_95
      refine lv_iload_n hx hb dX6_find_73 rfl (lv_at hl 2 rfl) ?_
      refine lv_goto (tgt := 78) hx hb dX6_find_74 (by decide) ?_
      refine dp_put (A := A6 μ) (v := .int more) hx hb hts (dp_hin 37 rfl) tyX6 tyX6_ok nmX6 hown hK hM.1 (⟨0, by decide, rfl⟩ : A6 μ (μ 0)) hS rfl 8 (by decide) (hts (.fieldLink RX6 80 "DroopBoardModel" "lack" "I") (List.mem_of_getElem? (i := 2) rfl)) rfl rfl rfl (Nat.le_of_ble_eq_true rfl) dX6_find_78 (fun H5 locs hH5 hzH5 hkH5 hS => ?_)
      have hM := hM.o (sm' := sm) (kp' := kp) (th' := th) (la' := more) (ln' := ln) (sp' := sp) (od' := od) (hs' := hs) hμ hH5 hkH5
      refine lv_iload_n hx hb dX6_find_81 rfl (lv_at hl 2 rfl) ?_
      refine lv_if_ge (tgt := 95) hx hb dX6_find_82 (by decide) (fun c4 => ?_) (fun c4 => absurd (Int32.le_of_lt (Int32.not_le.mp c2)) c4)
      have hlk : more = lk R (fq R) := by rw [← lk_m, ← hmore]; exact (if_neg c2).symm
      exact W.vret hx hb hr (fun t ht hW => ⟨⟨H5, rfl, ⟨P9, fun i hi => by rw [← pw_ge (by rw [← hmore]; exact (Int32.le_of_lt (Int32.not_le.mp c2)))]; exact hP9 i (by omega) hi, by rw [← hlk]; exact hM⟩, ht⟩, hS.F ht⟩) hS.2.2 dX6_find_95
    | succ m9 ih15 =>
      intro t9 more lo P9 Hh hm3 ht9 hmore hlo hP9 hM locs hS ls hl
      obtain rfl : t9 = nI m9 := one_off ht9
      refine lv_iload hx hb dX6_find_15 (lv_at hl 4 rfl) ?_
      refine lv_if_lt (tgt := 68) hx hb dX6_find_17 (by decide) (fun c5 => absurd c5 (nI_nlt (a := m9) (b := 0) (by omega) (by omega))) (fun c5 => ?_)
      refine lv_aload_n hx hb dX6_find_20 rfl (lv_at hl 0 rfl) ?_
      refine dp_get hx hb hts (dp_hin 37 rfl) hown hK hM.1 rfl 7 (by decide) (hts (.fieldLink RX6 22 "DroopBoardModel" "powers" "[I") (List.mem_of_getElem? (i := 1) rfl)) rfl dX6_find_21 ?_
      refine lv_iload hx hb dX6_find_24 (lv_at hl 4 rfl) ?_
      refine lv_aload_n hx hb dX6_find_26 rfl (lv_at hl 0 rfl) ?_
      refine lv_iload hx hb dX6_find_27 (lv_at hl 4 rfl) ?_
      refine lv_iload_n hx hb dX6_find_29 rfl (lv_at hl 1 rfl) ?_
      refine dp_Vi hF hK hN (c_X6_given l D G μ R S N E P9 B L1 L2 L3 sm kp th la ln sp od hs m9 (fq R) _ hμ hM hwz (by omega)) (cwV 2 hts gX6_find_X6_given rfl rfl rfl (by decide +kernel) ⟨Nat.le_of_ble_eq_true rfl, Nat.le_of_ble_eq_true rfl⟩) (dp_recv hK hM.1 rfl) hS nA_i [.int (nI m9), .ref (μ 5)] rfl rfl hl.1 (Nat.le_of_ble_eq_true rfl) dX6_find_30 ⟨Nat.le_of_ble_eq_true rfl, Nat.le_of_ble_eq_true rfl⟩ (fun rH6 H6 locs hp hzH6 hkH6 hS => ?_)
      obtain ⟨rfl, rfl⟩ := hp
      refine dp_iast (A := A6 μ) hx hb hK hM.2.2.2.2.2.1 (⟨5, by decide, rfl⟩ : A6 μ (μ 5)) hS 0 rfl m9 rfl (by omega) (by decide) dX6_find_33 (fun H7 locs hH7 hzH7 hkH7 hS => ?_)
      have hM := hM.a5 (X' := upd P9 m9 (gv R m9 (fq R))) hμ hH7 hkH7
      refine lv_iload_n hx hb dX6_find_34 rfl (lv_at hl 2 rfl) ?_
      refine lv_aload_n hx hb dX6_find_35 rfl (lv_at hl 0 rfl) ?_
      refine dp_get hx hb hts (dp_hin 37 rfl) hown hK hM.1 rfl 7 (by decide) (hts (.fieldLink RX6 22 "DroopBoardModel" "powers" "[I") (List.mem_of_getElem? (i := 1) rfl)) rfl dX6_find_36 ?_
      refine lv_iload hx hb dX6_find_39 (lv_at hl 4 rfl) ?_
      refine dp_iald hx hb hK hM.2.2.2.2.2.1 0 rfl m9 rfl (by omega) (by decide) dX6_find_41 ?_
      refine lv_isub hx hb dX6_find_42 ?_
      refine lv_istore_n (lv' := [(2, .int (more - ((upd P9 m9 (gv R m9 (fq R))) m9))), (0, .ref (μ 0)), (1, .int (fq R)), (3, .int lo), (4, .int (nI m9))]) hx hb dX6_find_43 rfl hl (by decide) rfl (fun ls hl => ?_)
      refine lv_aload_n hx hb dX6_find_44 rfl (lv_at hl 1 rfl) ?_
      refine lv_iload hx hb dX6_find_45 (lv_at hl 4 rfl) ?_
      refine lv_iconst (v := 4) hx hb dX6_find_47 (by decide) ?_
      refine dp_Vi hF hK hN (c_X6_of l D G μ R S N E (upd P9 m9 (gv R m9 (fq R))) B L1 L2 L3 sm kp th la ln sp od hs m9 4 12 _ hμ hM (by omega) (by decide) rfl) (cwV 2 hts gX6_find_X6_of rfl rfl rfl (by decide +kernel) ⟨Nat.le_of_ble_eq_true rfl, Nat.le_of_ble_eq_true rfl⟩) (dp_recv hK hM.1 rfl) hS nA_i [] rfl rfl hl.1 (Nat.le_of_ble_eq_true rfl) dX6_find_48 ⟨Nat.le_of_ble_eq_true rfl, Nat.le_of_ble_eq_true rfl⟩ (fun rH8 H8 locs hp hzH8 hkH8 hS => ?_)
      obtain ⟨rfl, rfl⟩ := hp
      refine lv_iconst (v := 1) hx hb dX6_find_51 (by decide) ?_
      refine lv_icmp_ne (tgt := 60) hx hb dX6_find_52 (by decide) (fun c6 => ?_) (fun c6 => ?_)
      · refine lv_iload_n hx hb dX6_find_60 rfl (lv_at hl 3 rfl) ?_
        refine lv_istore_n (lv' := [(3, .int lo), (2, .int (more - ((upd P9 m9 (gv R m9 (fq R))) m9))), (0, .ref (μ 0)), (1, .int (fq R)), (4, .int (nI m9))]) hx hb dX6_find_61 rfl hl (by decide) rfl (fun ls hl => ?_)
        refine lv_iinc (v := nI m9 + (-1)) (lv' := [(4, .int (nI m9 + (-1))), (3, .int lo), (2, .int (more - ((upd P9 m9 (gv R m9 (fq R))) m9))), (0, .ref (μ 0)), (1, .int (fq R))]) hx hb dX6_find_62 hl (k := 4) rfl rfl (by decide) rfl (fun ls hl => ?_)
        refine lv_goto (tgt := 15) hx hb dX6_find_65 (by decide) ?_
        exact ih15 (nI m9 + (-1)) (more - ((upd P9 m9 (gv R m9 (fq R))) m9)) lo (upd P9 m9 (gv R m9 (fq R))) H7 (by omega) (neg1b _) (by rw [hmore, mq_s (k := m9) (by omega), upd_eq]) (by rw [lq_s (by omega), if_neg c6, hlo]) (fun i h1 h2 => by by_cases q : i = m9; rw [q, upd_eq]; rw [upd_ne q]; exact hP9 i (by omega) h2) hM _ hS _ (lv_sub hl [3, 4, 2, 1, 0] rfl)
      refine lv_iload hx hb dX6_find_55 (lv_at hl 4 rfl) ?_
      refine lv_goto (tgt := 61) hx hb dX6_find_57 (by decide) ?_
      refine lv_istore_n (lv' := [(3, .int (nI m9)), (2, .int (more - ((upd P9 m9 (gv R m9 (fq R))) m9))), (0, .ref (μ 0)), (1, .int (fq R)), (4, .int (nI m9))]) hx hb dX6_find_61 rfl hl (by decide) rfl (fun ls hl => ?_)
      refine lv_iinc (v := nI m9 + (-1)) (lv' := [(4, .int (nI m9 + (-1))), (3, .int (nI m9)), (2, .int (more - ((upd P9 m9 (gv R m9 (fq R))) m9))), (0, .ref (μ 0)), (1, .int (fq R))]) hx hb dX6_find_62 hl (k := 4) rfl rfl (by decide) rfl (fun ls hl => ?_)
      refine lv_goto (tgt := 15) hx hb dX6_find_65 (by decide) ?_
      exact ih15 (nI m9 + (-1)) (more - ((upd P9 m9 (gv R m9 (fq R))) m9)) (nI m9) (upd P9 m9 (gv R m9 (fq R))) H7 (by omega) (neg1b _) (by rw [hmore, mq_s (k := m9) (by omega), upd_eq]) (by rw [lq_s (by omega), if_pos c6]) (fun i h1 h2 => by by_cases q : i = m9; rw [q, upd_eq]; rw [upd_ne q]; exact hP9 i (by omega) h2) hM _ hS _ (lv_sub hl [3, 4, 2, 1, 0] rfl)
  exact loop15 3 2 ((ld R)) ((-1)) P s.heap (Nat.le_refl _) rfl rfl rfl (fun i h1 h2 => by omega) hM _ hS _ (lv_sub hl [4, 3, 2, 1, 0] rfl)
