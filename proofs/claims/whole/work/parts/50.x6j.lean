set_option maxHeartbeats 600000 in
set_option maxRecDepth 100000 in
theorem c_X6_save (l : Launch) (D : va_G) (G : Nat → ClassId) (μ : Nat → Nat) (R S N E P B L1 L2 L3 : Nat → Int32) (sm kp th la ln sp od : Int32) (hs : Int64) (n : Nat) (H : Heap) (hμ : inj 10 μ) (hM : MO D G μ R S N E P B L1 L2 L3 sm kp th la ln sp od hs H) (hsm : sm = nI n) (hn : n ≤ 6) : Met l yX6_save wsX6_save ({ frames := 0, cells := 0, slots := 0, locals := 0 } : Room) (va_Pc [.ref (μ 0)] (CX D G H)) (QV (A6 μ) (fun h => MO D G μ R (msv S R n) N E P B L1 L2 L3 (nI (svn n)) kp th la ln sp od hs h)) 0 0 (A6 μ) := by
  refine Met.ofW (cc := cX6_save) (maxL := 2) (ret := none) (by decide) rfl ?_
  intro p e s m args below meth c s₁ B0 hml hv
  obtain ⟨rfl, rfl, hK, hN⟩ := hv
  have hx := B0.exec
  have hb := B0.bytes
  have hr := B0.returns
  have hts := atoms_spec (ws := wsX6_save) B0.pre
  have hown : s.vm.findClass RX6 = some m.cls := findClass_of_methodNamed B0.named
  have hlocks := B0.notSynchronized
  have hF : CallFix p m c cX6_save 2 s ([.ref (μ 0)] : List Value).toArray wsX6_save RX6 := ⟨hx, hb, hml, hown, hts⟩
  have hS : va_S (A6 μ) s.heap s.heap [] := va_S.rf
  have hl := lv_entry ([.ref (μ 0)]) (n := 2) (Nat.le_of_ble_eq_true rfl)
  rw [lg_entry_eq]
  generalize (lg_sl ([.ref (μ 0)]) ++ List.replicate (2 - (lg_sl ([.ref (μ 0)])).length) Slot.unset).toArray = ls at hl ⊢
  have hl : lv_has ls 2 [(0, .ref (μ 0))] := hl
  subst hsm
  refine lv_aload_n hx hb dX6_save_0 rfl (lv_at hl 0 rfl) ?_
  refine dp_get hx hb hts (dp_hin 4 rfl) hown hK hM.1 rfl 2 (by decide) (hts (.fieldLink RX6 49 "DroopBoardModel" "savedMany" "I") (List.mem_of_getElem? (i := 1) rfl)) rfl dX6_save_1 ?_
  refine lv_bipush (v := 6) hx hb dX6_save_4 (by decide) ?_
  refine lv_icmp_ne (tgt := 49) hx hb dX6_save_6 (by decide) (fun c1 => ?_) (fun c1 => ?_)
  · have hn6 : n < 6 := by rcases Nat.lt_or_ge n 6 with q | q; exact q; exact absurd (by rw [show n = 6 by omega]; rfl) c1
    refine lv_iconst (v := 0) hx hb dX6_save_49 (by decide) ?_
    refine lv_istore_n (lv' := [(1, .int 0), (0, .ref (μ 0))]) hx hb dX6_save_50 rfl hl (by decide) rfl (fun ls hl => ?_)
    have loop51 : ∀ (m8 : Nat) (k2 : Nat) (Hh : Heap) (_ : k2 + m8 = 50) (_ : MO D G μ R (ins S R (50 * n) k2) N E P B L1 L2 L3 (nI n) kp th la ln sp od hs Hh) (locs : List Loc) (_ : va_S (A6 μ) s.heap Hh locs) (ls : Array Slot) (_ : lv_has ls 2 [(0, .ref (μ 0)), (1, .int (nI k2))]), W p l e (headSpec wsX6_save ({ frames := 0, cells := 0, slots := 0, locals := 0 } : Room)).room s m ([.ref (μ 0)] : List Value).toArray below meth c Hh locs 0 0 (MQ below (QV (A6 μ) (fun h => MO D G μ R (msv S R n) N E P B L1 L2 L3 (nI (svn n)) kp th la ln sp od hs h)) ([.ref (μ 0)] : List Value).toArray s 0 0 (A6 μ)) (F0 m 51 ls []) := by
      intro m8
      induction m8 with
      | zero =>
        intro k2 Hh hin2 hM locs hS ls hl
        obtain rfl : k2 = 50 := by omega
        refine lv_iload_n hx hb dX6_save_51 rfl (lv_at hl 1 rfl) ?_
        refine lv_bipush (v := 50) hx hb dX6_save_52 (by decide) ?_
        refine lv_icmp_ge (tgt := 83) hx hb dX6_save_54 (by decide) (fun c2 => ?_) (fun c2 => absurd (nI_le (a := 50) (b := 50) (by omega) (by omega)) c2)
        refine lv_aload_n hx hb dX6_save_83 rfl (lv_at hl 0 rfl) ?_
        refine lv_dup hx hb dX6_save_84 rfl ?_
        refine dp_get hx hb hts (dp_hin 4 rfl) hown hK hM.1 rfl 2 (by decide) (hts (.fieldLink RX6 49 "DroopBoardModel" "savedMany" "I") (List.mem_of_getElem? (i := 1) rfl)) rfl dX6_save_85 ?_
        refine lv_iconst (v := 1) hx hb dX6_save_88 (by decide) ?_
        refine lv_iadd hx hb dX6_save_89 ?_
        rw [nI_1 n]
        refine dp_put (A := A6 μ) (v := .int (nI (n + 1))) hx hb hts (dp_hin 4 rfl) tyX6 tyX6_ok nmX6 hown hK hM.1 (⟨0, by decide, rfl⟩ : A6 μ (μ 0)) hS rfl 2 (by decide) (hts (.fieldLink RX6 49 "DroopBoardModel" "savedMany" "I") (List.mem_of_getElem? (i := 1) rfl)) rfl rfl rfl (Nat.le_of_ble_eq_true rfl) dX6_save_90 (fun H1 locs hH1 hzH1 hkH1 hS => ?_)
        have hM := hM.o (sm' := (nI (n + 1))) (kp' := kp) (th' := th) (la' := la) (ln' := ln) (sp' := sp) (od' := od) (hs' := hs) hμ hH1 hkH1
        exact W.vret hx hb hr (fun t ht hW => ⟨⟨H1, rfl, by rw [msv, if_neg (by omega), svn, if_pos hn6]; exact hM, ht⟩, hS.F ht⟩) hS.2.2 dX6_save_93
      | succ m8 ih51 =>
        intro k2 Hh hin2 hM locs hS ls hl
        refine lv_iload_n hx hb dX6_save_51 rfl (lv_at hl 1 rfl) ?_
        refine lv_bipush (v := 50) hx hb dX6_save_52 (by decide) ?_
        refine lv_icmp_ge (tgt := 83) hx hb dX6_save_54 (by decide) (fun c3 => absurd c3 (nI_ge (a := k2) (b := 50) (by omega) (by omega))) (fun c3 => ?_)
        refine lv_aload_n hx hb dX6_save_57 rfl (lv_at hl 0 rfl) ?_
        refine dp_get hx hb hts (dp_hin 4 rfl) hown hK hM.1 rfl 1 (by decide) (hts (.fieldLink RX6 13 "DroopBoardModel" "saved" "[I") (List.mem_of_getElem? (i := 2) rfl)) rfl dX6_save_58 ?_
        refine lv_bipush (v := 50) hx hb dX6_save_61 (by decide) ?_
        refine lv_aload_n hx hb dX6_save_63 rfl (lv_at hl 0 rfl) ?_
        refine dp_get hx hb hts (dp_hin 4 rfl) hown hK hM.1 rfl 2 (by decide) (hts (.fieldLink RX6 49 "DroopBoardModel" "savedMany" "I") (List.mem_of_getElem? (i := 1) rfl)) rfl dX6_save_64 ?_
        refine lv_imul hx hb dX6_save_67 ?_
        refine lv_iload_n hx hb dX6_save_68 rfl (lv_at hl 1 rfl) ?_
        refine lv_iadd hx hb dX6_save_69 ?_
        rw [mI_sv (n := n) (k := k2)]
        refine lv_aload_n hx hb dX6_save_70 rfl (lv_at hl 0 rfl) ?_
        refine dp_get hx hb hts (dp_hin 4 rfl) hown hK hM.1 rfl 0 (by decide) (hts (.fieldLink RX6 7 "DroopBoardModel" "row" "[I") (List.mem_of_getElem? (i := 3) rfl)) rfl dX6_save_71 ?_
        refine lv_iload_n hx hb dX6_save_74 rfl (lv_at hl 1 rfl) ?_
        refine dp_iald hx hb hK hM.2.1 0 rfl k2 rfl (by omega) (by decide) dX6_save_75 ?_
        refine dp_iast (A := A6 μ) hx hb hK hM.2.2.1 (⟨2, by decide, rfl⟩ : A6 μ (μ 2)) hS 0 rfl ((50 * n + k2)) rfl (by omega) (by decide) dX6_save_76 (fun H2 locs hH2 hzH2 hkH2 hS => ?_)
        have hM := hM.a2 (X' := upd (ins S R (50 * n) k2) ((50 * n + k2)) (R k2)) hμ hH2 hkH2
        refine lv_iinc (v := nI (k2 + 1)) (lv' := [(1, .int (nI (k2 + 1))), (0, .ref (μ 0))]) hx hb dX6_save_77 hl (k := 1) rfl (nI_1 k2) (by decide) rfl (fun ls hl => ?_)
        refine lv_goto (tgt := 51) hx hb dX6_save_80 (by decide) ?_
        exact ih51 (k2 + 1) H2 (by omega) (by rw [← ins_s]; exact hM) _ hS _ (lv_sub hl [1, 0] rfl)
    exact loop51 50 0 s.heap rfl (by rw [ins_0]; exact hM) _ hS _ (lv_sub hl [1, 0] rfl)
  have hn6 : n = 6 := (nI_eq (b := 6) (by omega) (by decide)).mp c1
  refine lv_iconst (v := 0) hx hb dX6_save_9 (by decide) ?_
  refine lv_istore_n (lv' := [(1, .int 0), (0, .ref (μ 0))]) hx hb dX6_save_10 rfl hl (by decide) rfl (fun ls hl => ?_)
  have loop11 : ∀ (m9 : Nat) (k : Nat) (Hh : Heap) (_ : k + m9 = 250) (_ : MO D G μ R (sft S k) N E P B L1 L2 L3 (nI n) kp th la ln sp od hs Hh) (locs : List Loc) (_ : va_S (A6 μ) s.heap Hh locs) (ls : Array Slot) (_ : lv_has ls 2 [(0, .ref (μ 0)), (1, .int (nI k))]), W p l e (headSpec wsX6_save ({ frames := 0, cells := 0, slots := 0, locals := 0 } : Room)).room s m ([.ref (μ 0)] : List Value).toArray below meth c Hh locs 0 0 (MQ below (QV (A6 μ) (fun h => MO D G μ R (msv S R n) N E P B L1 L2 L3 (nI (svn n)) kp th la ln sp od hs h)) ([.ref (μ 0)] : List Value).toArray s 0 0 (A6 μ)) (F0 m 11 ls []) := by
    intro m9
    induction m9 with
    | zero =>
      intro k Hh hin hM locs hS ls hl
      obtain rfl : k = 250 := by omega
      refine lv_iload_n hx hb dX6_save_11 rfl (lv_at hl 1 rfl) ?_
      refine lv_sipush (v := 250) hx hb dX6_save_12 (by decide) ?_
      refine lv_icmp_ge (tgt := 39) hx hb dX6_save_15 (by decide) (fun c4 => ?_) (fun c4 => absurd (nI_le (a := 250) (b := 250) (by omega) (by omega)) c4)
      refine lv_aload_n hx hb dX6_save_39 rfl (lv_at hl 0 rfl) ?_
      refine lv_dup hx hb dX6_save_40 rfl ?_
      refine dp_get hx hb hts (dp_hin 4 rfl) hown hK hM.1 rfl 2 (by decide) (hts (.fieldLink RX6 49 "DroopBoardModel" "savedMany" "I") (List.mem_of_getElem? (i := 1) rfl)) rfl dX6_save_41 ?_
      refine lv_iconst (v := 1) hx hb dX6_save_44 (by decide) ?_
      refine lv_isub hx hb dX6_save_45 ?_
      rw [show nI n - 1 = nI 5 by rw [hn6]; decide]
      refine dp_put (A := A6 μ) (v := .int (nI 5)) hx hb hts (dp_hin 4 rfl) tyX6 tyX6_ok nmX6 hown hK hM.1 (⟨0, by decide, rfl⟩ : A6 μ (μ 0)) hS rfl 2 (by decide) (hts (.fieldLink RX6 49 "DroopBoardModel" "savedMany" "I") (List.mem_of_getElem? (i := 1) rfl)) rfl rfl rfl (Nat.le_of_ble_eq_true rfl) dX6_save_46 (fun H3 locs hH3 hzH3 hkH3 hS => ?_)
      have hM := hM.o (sm' := (nI 5)) (kp' := kp) (th' := th) (la' := la) (ln' := ln) (sp' := sp) (od' := od) (hs' := hs) hμ hH3 hkH3
      refine lv_iconst (v := 0) hx hb dX6_save_49 (by decide) ?_
      refine lv_istore_n (lv' := [(1, .int 0), (0, .ref (μ 0))]) hx hb dX6_save_50 rfl hl (by decide) rfl (fun ls hl => ?_)
      have loop51 : ∀ (m8 : Nat) (k2 : Nat) (Hh : Heap) (_ : k2 + m8 = 50) (_ : MO D G μ R (ins (sft S 250) R (50 * 5) k2) N E P B L1 L2 L3 (nI 5) kp th la ln sp od hs Hh) (locs : List Loc) (_ : va_S (A6 μ) s.heap Hh locs) (ls : Array Slot) (_ : lv_has ls 2 [(0, .ref (μ 0)), (1, .int (nI k2))]), W p l e (headSpec wsX6_save ({ frames := 0, cells := 0, slots := 0, locals := 0 } : Room)).room s m ([.ref (μ 0)] : List Value).toArray below meth c Hh locs 0 0 (MQ below (QV (A6 μ) (fun h => MO D G μ R (msv S R n) N E P B L1 L2 L3 (nI (svn n)) kp th la ln sp od hs h)) ([.ref (μ 0)] : List Value).toArray s 0 0 (A6 μ)) (F0 m 51 ls []) := by
        intro m8
        induction m8 with
        | zero =>
          intro k2 Hh hin2 hM locs hS ls hl
          obtain rfl : k2 = 50 := by omega
          refine lv_iload_n hx hb dX6_save_51 rfl (lv_at hl 1 rfl) ?_
          refine lv_bipush (v := 50) hx hb dX6_save_52 (by decide) ?_
          refine lv_icmp_ge (tgt := 83) hx hb dX6_save_54 (by decide) (fun c5 => ?_) (fun c5 => absurd (nI_le (a := 50) (b := 50) (by omega) (by omega)) c5)
          refine lv_aload_n hx hb dX6_save_83 rfl (lv_at hl 0 rfl) ?_
          refine lv_dup hx hb dX6_save_84 rfl ?_
          refine dp_get hx hb hts (dp_hin 4 rfl) hown hK hM.1 rfl 2 (by decide) (hts (.fieldLink RX6 49 "DroopBoardModel" "savedMany" "I") (List.mem_of_getElem? (i := 1) rfl)) rfl dX6_save_85 ?_
          refine lv_iconst (v := 1) hx hb dX6_save_88 (by decide) ?_
          refine lv_iadd hx hb dX6_save_89 ?_
          rw [nI_1 5]
          refine dp_put (A := A6 μ) (v := .int (nI (5 + 1))) hx hb hts (dp_hin 4 rfl) tyX6 tyX6_ok nmX6 hown hK hM.1 (⟨0, by decide, rfl⟩ : A6 μ (μ 0)) hS rfl 2 (by decide) (hts (.fieldLink RX6 49 "DroopBoardModel" "savedMany" "I") (List.mem_of_getElem? (i := 1) rfl)) rfl rfl rfl (Nat.le_of_ble_eq_true rfl) dX6_save_90 (fun H4 locs hH4 hzH4 hkH4 hS => ?_)
          have hM := hM.o (sm' := (nI (5 + 1))) (kp' := kp) (th' := th) (la' := la) (ln' := ln) (sp' := sp) (od' := od) (hs' := hs) hμ hH4 hkH4
          exact W.vret hx hb hr (fun t ht hW => ⟨⟨H4, rfl, by rw [msv, if_pos hn6, svn, if_neg (by omega)]; exact hM, ht⟩, hS.F ht⟩) hS.2.2 dX6_save_93
        | succ m8 ih51 =>
          intro k2 Hh hin2 hM locs hS ls hl
          refine lv_iload_n hx hb dX6_save_51 rfl (lv_at hl 1 rfl) ?_
          refine lv_bipush (v := 50) hx hb dX6_save_52 (by decide) ?_
          refine lv_icmp_ge (tgt := 83) hx hb dX6_save_54 (by decide) (fun c6 => absurd c6 (nI_ge (a := k2) (b := 50) (by omega) (by omega))) (fun c6 => ?_)
          refine lv_aload_n hx hb dX6_save_57 rfl (lv_at hl 0 rfl) ?_
          refine dp_get hx hb hts (dp_hin 4 rfl) hown hK hM.1 rfl 1 (by decide) (hts (.fieldLink RX6 13 "DroopBoardModel" "saved" "[I") (List.mem_of_getElem? (i := 2) rfl)) rfl dX6_save_58 ?_
          refine lv_bipush (v := 50) hx hb dX6_save_61 (by decide) ?_
          refine lv_aload_n hx hb dX6_save_63 rfl (lv_at hl 0 rfl) ?_
          refine dp_get hx hb hts (dp_hin 4 rfl) hown hK hM.1 rfl 2 (by decide) (hts (.fieldLink RX6 49 "DroopBoardModel" "savedMany" "I") (List.mem_of_getElem? (i := 1) rfl)) rfl dX6_save_64 ?_
          refine lv_imul hx hb dX6_save_67 ?_
          refine lv_iload_n hx hb dX6_save_68 rfl (lv_at hl 1 rfl) ?_
          refine lv_iadd hx hb dX6_save_69 ?_
          rw [mI_sv (n := 5) (k := k2)]
          refine lv_aload_n hx hb dX6_save_70 rfl (lv_at hl 0 rfl) ?_
          refine dp_get hx hb hts (dp_hin 4 rfl) hown hK hM.1 rfl 0 (by decide) (hts (.fieldLink RX6 7 "DroopBoardModel" "row" "[I") (List.mem_of_getElem? (i := 3) rfl)) rfl dX6_save_71 ?_
          refine lv_iload_n hx hb dX6_save_74 rfl (lv_at hl 1 rfl) ?_
          refine dp_iald hx hb hK hM.2.1 0 rfl k2 rfl (by omega) (by decide) dX6_save_75 ?_
          refine dp_iast (A := A6 μ) hx hb hK hM.2.2.1 (⟨2, by decide, rfl⟩ : A6 μ (μ 2)) hS 0 rfl ((50 * 5 + k2)) rfl (by omega) (by decide) dX6_save_76 (fun H5 locs hH5 hzH5 hkH5 hS => ?_)
          have hM := hM.a2 (X' := upd (ins (sft S 250) R (50 * 5) k2) ((50 * 5 + k2)) (R k2)) hμ hH5 hkH5
          refine lv_iinc (v := nI (k2 + 1)) (lv' := [(1, .int (nI (k2 + 1))), (0, .ref (μ 0))]) hx hb dX6_save_77 hl (k := 1) rfl (nI_1 k2) (by decide) rfl (fun ls hl => ?_)
          refine lv_goto (tgt := 51) hx hb dX6_save_80 (by decide) ?_
          exact ih51 (k2 + 1) H5 (by omega) (by rw [← ins_s]; exact hM) _ hS _ (lv_sub hl [1, 0] rfl)
      exact loop51 50 0 H3 rfl (by rw [ins_0]; exact hM) _ hS _ (lv_sub hl [1, 0] rfl)
    | succ m9 ih11 =>
      intro k Hh hin hM locs hS ls hl
      refine lv_iload_n hx hb dX6_save_11 rfl (lv_at hl 1 rfl) ?_
      refine lv_sipush (v := 250) hx hb dX6_save_12 (by decide) ?_
      refine lv_icmp_ge (tgt := 39) hx hb dX6_save_15 (by decide) (fun c7 => absurd c7 (nI_ge (a := k) (b := 250) (by omega) (by omega))) (fun c7 => ?_)
      refine lv_aload_n hx hb dX6_save_18 rfl (lv_at hl 0 rfl) ?_
      refine dp_get hx hb hts (dp_hin 4 rfl) hown hK hM.1 rfl 1 (by decide) (hts (.fieldLink RX6 13 "DroopBoardModel" "saved" "[I") (List.mem_of_getElem? (i := 2) rfl)) rfl dX6_save_19 ?_
      refine lv_iload_n hx hb dX6_save_22 rfl (lv_at hl 1 rfl) ?_
      refine lv_aload_n hx hb dX6_save_23 rfl (lv_at hl 0 rfl) ?_
      refine dp_get hx hb hts (dp_hin 4 rfl) hown hK hM.1 rfl 1 (by decide) (hts (.fieldLink RX6 13 "DroopBoardModel" "saved" "[I") (List.mem_of_getElem? (i := 2) rfl)) rfl dX6_save_24 ?_
      refine lv_iload_n hx hb dX6_save_27 rfl (lv_at hl 1 rfl) ?_
      refine lv_bipush (v := 50) hx hb dX6_save_28 (by decide) ?_
      refine lv_iadd hx hb dX6_save_30 ?_
      rw [nI_50 k]
      refine dp_iald hx hb hK hM.2.2.1 0 rfl ((k + 50)) rfl (by omega) (by decide) dX6_save_31 ?_
      refine dp_iast (A := A6 μ) hx hb hK hM.2.2.1 (⟨2, by decide, rfl⟩ : A6 μ (μ 2)) hS 0 rfl k rfl (by omega) (by decide) dX6_save_32 (fun H6 locs hH6 hzH6 hkH6 hS => ?_)
      have hM := hM.a2 (X' := upd (sft S k) k ((sft S k) ((k + 50)))) hμ hH6 hkH6
      refine lv_iinc (v := nI (k + 1)) (lv' := [(1, .int (nI (k + 1))), (0, .ref (μ 0))]) hx hb dX6_save_33 hl (k := 1) rfl (nI_1 k) (by decide) rfl (fun ls hl => ?_)
      refine lv_goto (tgt := 11) hx hb dX6_save_36 (by decide) ?_
      exact ih11 (k + 1) H6 (by omega) (by rw [← sft_s]; exact hM) _ hS _ (lv_sub hl [1, 0] rfl)
  exact loop11 250 0 s.heap rfl (by rw [sft_0]; exact hM) _ hS _ (lv_sub hl [1, 0] rfl)
