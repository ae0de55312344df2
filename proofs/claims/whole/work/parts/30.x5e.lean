set_option maxHeartbeats 600000 in
set_option maxRecDepth 100000 in
theorem c_X5_bitsOfDouble (l : Launch) (D : va_G) (G : Nat → ClassId) (x : UInt64) (H : Heap) (hx9 : okD x) : Met l yX5_bitsOfDouble wsX5_bitsOfDouble ({ frames := 0, cells := 0, slots := 0, locals := 0 } : Room) (va_Pc [.double x] (CX D G H)) (QL nA (fun r h => H = h ∧ x.toInt64 = r)) 0 0 (nA) := by
  refine Met.ofW (cc := cX5_bitsOfDouble) (maxL := 6) (ret := (some .long)) (by decide) rfl ?_
  intro p e s m args below meth c s₁ B0 hml hv
  obtain ⟨rfl, rfl, hK, hN⟩ := hv
  have hx := B0.exec
  have hb := B0.bytes
  have hr := B0.returns
  have hts := atoms_spec (ws := wsX5_bitsOfDouble) B0.pre
  have hown : s.vm.findClass RX5 = some m.cls := findClass_of_methodNamed B0.named
  have hlocks := B0.notSynchronized
  have hF : CallFix p m c cX5_bitsOfDouble 6 s ([.double x] : List Value).toArray wsX5_bitsOfDouble RX5 := ⟨hx, hb, hml, hown, hts⟩
  have hS : va_S (nA) s.heap s.heap [] := va_S.rf
  have hl := lv_entry ([.double x]) (n := 6) (Nat.le_of_ble_eq_true rfl)
  rw [lg_entry_eq]
  generalize (lg_sl ([.double x]) ++ List.replicate (6 - (lg_sl ([.double x])).length) Slot.unset).toArray = ls at hl ⊢
  have hl : lv_has ls 6 [(0, .double x)] := hl
  rcases hx9 with rfl | ⟨e9, t5, h1, h2, ht5, rfl⟩
  · refine lv_dload_n hx hb dX5_bitsOfDouble_0 rfl (lv_at hl 0 rfl) ?_
    refine lv_dconst0 hx hb dX5_bitsOfDouble_1 ?_
    refine lv_dcmp hx hb dX5_bitsOfDouble_2 ?_
    refine lv_if_gt (tgt := 8) hx hb dX5_bitsOfDouble_3 (by decide) (fun c1 => absurd c1 (by decide)) (fun c1 => ?_)
    refine lv_lconst (v := 0) hx hb dX5_bitsOfDouble_6 (by decide) ?_
    exact W.lret hx hb hr (fun t ht hW => ⟨⟨0, s.heap, rfl, ⟨rfl, by decide⟩, ht⟩, hS.F ht⟩) hS.2.2 dX5_bitsOfDouble_7
  · refine lv_dload_n hx hb dX5_bitsOfDouble_0 rfl (lv_at hl 0 rfl) ?_
    refine lv_dconst0 hx hb dX5_bitsOfDouble_1 ?_
    refine lv_dcmp hx hb dX5_bitsOfDouble_2 ?_
    refine lv_if_gt (tgt := 8) hx hb dX5_bitsOfDouble_3 (by decide) (fun c2 => ?_) (fun c2 => absurd (d_gt0 h1 h2 ht5) c2)
    refine lv_dload_n hx hb dX5_bitsOfDouble_8 rfl (lv_at hl 0 rfl) ?_
    refine lv_dstore_n (lv' := [(2, .double (dE e9 t5)), (0, .double (dE e9 t5))]) hx hb dX5_bitsOfDouble_9 rfl hl (by decide) rfl (fun ls hl => ?_)
    refine lv_sipush (v := 1023) hx hb dX5_bitsOfDouble_10 (by decide) ?_
    refine lv_istore (lv' := [(4, .int 1023), (2, .double (dE e9 t5)), (0, .double (dE e9 t5))]) hx hb dX5_bitsOfDouble_13 hl (by decide) rfl (fun ls hl => ?_)
    refine lv_iconst (v := 0) hx hb dX5_bitsOfDouble_15 (by decide) ?_
    refine lv_istore (lv' := [(5, .int 0), (4, .int 1023), (2, .double (dE e9 t5)), (0, .double (dE e9 t5))]) hx hb dX5_bitsOfDouble_16 hl (by decide) rfl (fun ls hl => ?_)
    have loop18 : ∀ (m9 : Nat) (i : Nat) (k : Nat) (X : Nat) (_ : i + m9 = 1023) (_ : X + k = e9 + 1023) (_ : (X = 1023 + i ∧ 1023 ≤ k) ∨ (i = 0 ∧ k = e9)) (_ : 1 ≤ k ∧ k < 2047) (locs : List Loc) (_ : va_S (nA) s.heap s.heap locs) (ls : Array Slot) (_ : lv_has ls 6 [(2, .double (dE k t5)), (4, .int (nI X)), (5, .int (nI i))]), W p l e (headSpec wsX5_bitsOfDouble ({ frames := 0, cells := 0, slots := 0, locals := 0 } : Room)).room s m ([.double (dE e9 t5)] : List Value).toArray below meth c s.heap locs 0 0 (MQ below (QL nA (fun r h => s.heap = h ∧ (dE e9 t5).toInt64 = r)) ([.double (dE e9 t5)] : List Value).toArray s 0 0 (nA)) (F0 m 18 ls []) := by
      intro m9
      induction m9 with
      | zero =>
        intro i k X hin hX hk hk1 locs hS ls hl
        refine lv_iload hx hb dX5_bitsOfDouble_18 (lv_at hl 2 rfl) ?_
        refine lv_sipush (v := 1023) hx hb dX5_bitsOfDouble_20 (by decide) ?_
        refine lv_icmp_ge (tgt := 49) hx hb dX5_bitsOfDouble_23 (by decide) (fun c3 => ?_) (fun c3 => absurd (nI_le (a := 1023) (b := i) (by omega) (by omega)) c3)
        have hk2 : k ≤ 1023 := by omega
        refine lv_iconst (v := 0) hx hb dX5_bitsOfDouble_49 (by decide) ?_
        refine lv_istore (lv' := [(5, .int 0), (2, .double (dE k t5)), (4, .int (nI X))]) hx hb dX5_bitsOfDouble_50 hl (by decide) rfl (fun ls hl => ?_)
        have loop52 : ∀ (m8 : Nat) (i2 : Nat) (k2 : Nat) (X2 : Nat) (_ : i2 + m8 = 1022) (_ : X2 + k2 = e9 + 1023) (_ : k2 ≤ 1023) (_ : k2 = 1023 ∨ k2 = e9 + i2) (_ : 1 ≤ k2) (locs : List Loc) (_ : va_S (nA) s.heap s.heap locs) (ls : Array Slot) (_ : lv_has ls 6 [(2, .double (dE k2 t5)), (4, .int (nI X2)), (5, .int (nI i2))]), W p l e (headSpec wsX5_bitsOfDouble ({ frames := 0, cells := 0, slots := 0, locals := 0 } : Room)).room s m ([.double (dE e9 t5)] : List Value).toArray below meth c s.heap locs 0 0 (MQ below (QL nA (fun r h => s.heap = h ∧ (dE e9 t5).toInt64 = r)) ([.double (dE e9 t5)] : List Value).toArray s 0 0 (nA)) (F0 m 52 ls []) := by
          intro m8
          induction m8 with
          | zero =>
            intro i2 k2 X2 hin2 hX2 hk3 hk4 hk5 locs hS ls hl
            refine lv_iload hx hb dX5_bitsOfDouble_52 (lv_at hl 2 rfl) ?_
            refine lv_sipush (v := 1022) hx hb dX5_bitsOfDouble_54 (by decide) ?_
            refine lv_icmp_ge (tgt := 81) hx hb dX5_bitsOfDouble_57 (by decide) (fun c4 => ?_) (fun c4 => absurd (nI_le (a := 1022) (b := i2) (by omega) (by omega)) c4)
            have hk6 : k2 = 1023 := by omega
            obtain ⟨u9, v9, hu, hun, hv, hvn, hl9⟩ := d_frac ht5
            refine lv_iload hx hb dX5_bitsOfDouble_81 (lv_at hl 1 rfl) ?_
            refine lv_i2l hx hb dX5_bitsOfDouble_83 rfl ?_
            refine lv_bipush (v := 52) hx hb dX5_bitsOfDouble_84 (by decide) ?_
            refine lv_lshl (v := ((Int32.toInt64 (nI X2)) <<< ((52 : Int32).toInt64 &&& 63))) hx hb dX5_bitsOfDouble_86 rfl ?_
            refine lv_dload_n hx hb dX5_bitsOfDouble_87 rfl (lv_at hl 0 rfl) ?_
            refine lv_dconst1 hx hb dX5_bitsOfDouble_88 ?_
            refine lv_dsub hx hb dX5_bitsOfDouble_89 (by rw [(show FP.dsub (dE k2 t5) FP.dconst1 = u9 by rw [hk6]; exact hu)]; exact hun) ?_
            rw [(show FP.dsub (dE k2 t5) FP.dconst1 = u9 by rw [hk6]; exact hu)]
            refine lv_ldc2d (v := (4841369599423283200)) hx hb hown (hts (.constantDouble RX5 338 (4841369599423283200)) (List.mem_of_getElem? (i := 2) rfl)) dX5_bitsOfDouble_90 ?_
            refine lv_dmul hx hb dX5_bitsOfDouble_93 (by rw [hv]; exact hvn) ?_
            rw [hv]
            refine lv_d2l hx hb dX5_bitsOfDouble_94 ?_
            refine lv_ladd hx hb dX5_bitsOfDouble_95 ?_
            exact W.lret hx hb hr (fun t ht hW => ⟨⟨((Int32.toInt64 (nI X2)) <<< ((52 : Int32).toInt64 &&& 63)) + (FP.d2l v9), s.heap, rfl, ⟨rfl, by rw [hl9, show X2 = e9 by omega]; exact (d_bits h1 h2 ht5).symm⟩, ht⟩, hS.F ht⟩) hS.2.2 dX5_bitsOfDouble_96
          | succ m8 ih52 =>
            intro i2 k2 X2 hin2 hX2 hk3 hk4 hk5 locs hS ls hl
            refine lv_iload hx hb dX5_bitsOfDouble_52 (lv_at hl 2 rfl) ?_
            refine lv_sipush (v := 1022) hx hb dX5_bitsOfDouble_54 (by decide) ?_
            refine lv_icmp_ge (tgt := 81) hx hb dX5_bitsOfDouble_57 (by decide) (fun c5 => absurd c5 (nI_ge (a := i2) (b := 1022) (by omega) (by omega))) (fun c5 => ?_)
            refine lv_dload_n hx hb dX5_bitsOfDouble_60 rfl (lv_at hl 0 rfl) ?_
            refine lv_dconst1 hx hb dX5_bitsOfDouble_61 ?_
            refine lv_dcmp hx hb dX5_bitsOfDouble_62 ?_
            refine lv_if_ge (tgt := 81) hx hb dX5_bitsOfDouble_63 (by decide) (fun c6 => ?_) (fun c6 => ?_)
            · have hk6 : k2 = 1023 := by rcases Nat.lt_or_ge k2 1023 with q | q; exact absurd (d_lt1 hk5 q ht5) (Int32.not_lt.mpr c6); omega
              obtain ⟨u9, v9, hu, hun, hv, hvn, hl9⟩ := d_frac ht5
              refine lv_iload hx hb dX5_bitsOfDouble_81 (lv_at hl 1 rfl) ?_
              refine lv_i2l hx hb dX5_bitsOfDouble_83 rfl ?_
              refine lv_bipush (v := 52) hx hb dX5_bitsOfDouble_84 (by decide) ?_
              refine lv_lshl (v := ((Int32.toInt64 (nI X2)) <<< ((52 : Int32).toInt64 &&& 63))) hx hb dX5_bitsOfDouble_86 rfl ?_
              refine lv_dload_n hx hb dX5_bitsOfDouble_87 rfl (lv_at hl 0 rfl) ?_
              refine lv_dconst1 hx hb dX5_bitsOfDouble_88 ?_
              refine lv_dsub hx hb dX5_bitsOfDouble_89 (by rw [(show FP.dsub (dE k2 t5) FP.dconst1 = u9 by rw [hk6]; exact hu)]; exact hun) ?_
              rw [(show FP.dsub (dE k2 t5) FP.dconst1 = u9 by rw [hk6]; exact hu)]
              refine lv_ldc2d (v := (4841369599423283200)) hx hb hown (hts (.constantDouble RX5 338 (4841369599423283200)) (List.mem_of_getElem? (i := 2) rfl)) dX5_bitsOfDouble_90 ?_
              refine lv_dmul hx hb dX5_bitsOfDouble_93 (by rw [hv]; exact hvn) ?_
              rw [hv]
              refine lv_d2l hx hb dX5_bitsOfDouble_94 ?_
              refine lv_ladd hx hb dX5_bitsOfDouble_95 ?_
              exact W.lret hx hb hr (fun t ht hW => ⟨⟨((Int32.toInt64 (nI X2)) <<< ((52 : Int32).toInt64 &&& 63)) + (FP.d2l v9), s.heap, rfl, ⟨rfl, by rw [hl9, show X2 = e9 by omega]; exact (d_bits h1 h2 ht5).symm⟩, ht⟩, hS.F ht⟩) hS.2.2 dX5_bitsOfDouble_96
            have hg2 : k2 < 1023 := by rcases Nat.lt_or_ge k2 1023 with q | q; exact q; exact absurd (Int32.not_lt.mp (d_ge1 q (by omega) ht5)) c6
            obtain ⟨Y2, rfl⟩ : ∃ Y2, X2 = Y2 + 1 := ⟨X2 - 1, by omega⟩
            refine lv_dload_n hx hb dX5_bitsOfDouble_66 rfl (lv_at hl 0 rfl) ?_
            refine lv_ldc2d (v := (4611686018427387904)) hx hb hown (hts (.constantDouble RX5 336 (4611686018427387904)) (List.mem_of_getElem? (i := 1) rfl)) dX5_bitsOfDouble_67 ?_
            refine lv_dmul hx hb dX5_bitsOfDouble_70 (by rw [d_dbl (e := k2) (t := t5) hk5 (by omega) ht5]; exact dE_n (by omega) ht5) ?_
            rw [d_dbl (e := k2) (t := t5) hk5 (by omega) ht5]
            refine lv_dstore_n (lv' := [(2, .double (dE (k2 + 1) t5)), (4, .int (nI (Y2 + 1))), (5, .int (nI i2))]) hx hb dX5_bitsOfDouble_71 rfl hl (by decide) rfl (fun ls hl => ?_)
            refine lv_iinc (v := nI Y2) (lv' := [(4, .int (nI Y2)), (2, .double (dE (k2 + 1) t5)), (5, .int (nI i2))]) hx hb dX5_bitsOfDouble_72 hl (k := 1) rfl (nI_dec Y2) (by decide) rfl (fun ls hl => ?_)
            refine lv_iinc (v := nI (i2 + 1)) (lv' := [(5, .int (nI (i2 + 1))), (4, .int (nI Y2)), (2, .double (dE (k2 + 1) t5))]) hx hb dX5_bitsOfDouble_75 hl (k := 2) rfl (nI_1 i2) (by decide) rfl (fun ls hl => ?_)
            refine lv_goto (tgt := 52) hx hb dX5_bitsOfDouble_78 (by decide) ?_
            exact ih52 (i2 + 1) (k2 + 1) Y2 (by omega) (by omega) (by omega) (by omega) (by omega) _ hS _ (lv_sub hl [2, 1, 0] rfl)
        exact loop52 1022 0 k X rfl hX hk2 (by omega) hk1.1 _ hS _ (lv_sub hl [1, 2, 0] rfl)
      | succ m9 ih18 =>
        intro i k X hin hX hk hk1 locs hS ls hl
        refine lv_iload hx hb dX5_bitsOfDouble_18 (lv_at hl 2 rfl) ?_
        refine lv_sipush (v := 1023) hx hb dX5_bitsOfDouble_20 (by decide) ?_
        refine lv_icmp_ge (tgt := 49) hx hb dX5_bitsOfDouble_23 (by decide) (fun c7 => absurd c7 (nI_ge (a := i) (b := 1023) (by omega) (by omega))) (fun c7 => ?_)
        refine lv_dload_n hx hb dX5_bitsOfDouble_26 rfl (lv_at hl 0 rfl) ?_
        refine lv_ldc2d (v := (4611686018427387904)) hx hb hown (hts (.constantDouble RX5 336 (4611686018427387904)) (List.mem_of_getElem? (i := 1) rfl)) dX5_bitsOfDouble_27 ?_
        refine lv_dcmp hx hb dX5_bitsOfDouble_30 ?_
        refine lv_if_lt (tgt := 49) hx hb dX5_bitsOfDouble_31 (by decide) (fun c8 => ?_) (fun c8 => ?_)
        · have hk2 : k ≤ 1023 := by rcases Nat.lt_or_ge k 1024 with q | q; omega; exact absurd c8 (d_ge2 q hk1.2 ht5)
          refine lv_iconst (v := 0) hx hb dX5_bitsOfDouble_49 (by decide) ?_
          refine lv_istore (lv' := [(5, .int 0), (2, .double (dE k t5)), (4, .int (nI X))]) hx hb dX5_bitsOfDouble_50 hl (by decide) rfl (fun ls hl => ?_)
          have loop52 : ∀ (m8 : Nat) (i2 : Nat) (k2 : Nat) (X2 : Nat) (_ : i2 + m8 = 1022) (_ : X2 + k2 = e9 + 1023) (_ : k2 ≤ 1023) (_ : k2 = 1023 ∨ k2 = e9 + i2) (_ : 1 ≤ k2) (locs : List Loc) (_ : va_S (nA) s.heap s.heap locs) (ls : Array Slot) (_ : lv_has ls 6 [(2, .double (dE k2 t5)), (4, .int (nI X2)), (5, .int (nI i2))]), W p l e (headSpec wsX5_bitsOfDouble ({ frames := 0, cells := 0, slots := 0, locals := 0 } : Room)).room s m ([.double (dE e9 t5)] : List Value).toArray below meth c s.heap locs 0 0 (MQ below (QL nA (fun r h => s.heap = h ∧ (dE e9 t5).toInt64 = r)) ([.double (dE e9 t5)] : List Value).toArray s 0 0 (nA)) (F0 m 52 ls []) := by
            intro m8
            induction m8 with
            | zero =>
              intro i2 k2 X2 hin2 hX2 hk3 hk4 hk5 locs hS ls hl
              refine lv_iload hx hb dX5_bitsOfDouble_52 (lv_at hl 2 rfl) ?_
              refine lv_sipush (v := 1022) hx hb dX5_bitsOfDouble_54 (by decide) ?_
              refine lv_icmp_ge (tgt := 81) hx hb dX5_bitsOfDouble_57 (by decide) (fun c9 => ?_) (fun c9 => absurd (nI_le (a := 1022) (b := i2) (by omega) (by omega)) c9)
              have hk6 : k2 = 1023 := by omega
              obtain ⟨u9, v9, hu, hun, hv, hvn, hl9⟩ := d_frac ht5
              refine lv_iload hx hb dX5_bitsOfDouble_81 (lv_at hl 1 rfl) ?_
              refine lv_i2l hx hb dX5_bitsOfDouble_83 rfl ?_
              refine lv_bipush (v := 52) hx hb dX5_bitsOfDouble_84 (by decide) ?_
              refine lv_lshl (v := ((Int32.toInt64 (nI X2)) <<< ((52 : Int32).toInt64 &&& 63))) hx hb dX5_bitsOfDouble_86 rfl ?_
              refine lv_dload_n hx hb dX5_bitsOfDouble_87 rfl (lv_at hl 0 rfl) ?_
              refine lv_dconst1 hx hb dX5_bitsOfDouble_88 ?_
              refine lv_dsub hx hb dX5_bitsOfDouble_89 (by rw [(show FP.dsub (dE k2 t5) FP.dconst1 = u9 by rw [hk6]; exact hu)]; exact hun) ?_
              rw [(show FP.dsub (dE k2 t5) FP.dconst1 = u9 by rw [hk6]; exact hu)]
              refine lv_ldc2d (v := (4841369599423283200)) hx hb hown (hts (.constantDouble RX5 338 (4841369599423283200)) (List.mem_of_getElem? (i := 2) rfl)) dX5_bitsOfDouble_90 ?_
              refine lv_dmul hx hb dX5_bitsOfDouble_93 (by rw [hv]; exact hvn) ?_
              rw [hv]
              refine lv_d2l hx hb dX5_bitsOfDouble_94 ?_
              refine lv_ladd hx hb dX5_bitsOfDouble_95 ?_
              exact W.lret hx hb hr (fun t ht hW => ⟨⟨((Int32.toInt64 (nI X2)) <<< ((52 : Int32).toInt64 &&& 63)) + (FP.d2l v9), s.heap, rfl, ⟨rfl, by rw [hl9, show X2 = e9 by omega]; exact (d_bits h1 h2 ht5).symm⟩, ht⟩, hS.F ht⟩) hS.2.2 dX5_bitsOfDouble_96
            | succ m8 ih52 =>
              intro i2 k2 X2 hin2 hX2 hk3 hk4 hk5 locs hS ls hl
              refine lv_iload hx hb dX5_bitsOfDouble_52 (lv_at hl 2 rfl) ?_
              refine lv_sipush (v := 1022) hx hb dX5_bitsOfDouble_54 (by decide) ?_
              refine lv_icmp_ge (tgt := 81) hx hb dX5_bitsOfDouble_57 (by decide) (fun c10 => absurd c10 (nI_ge (a := i2) (b := 1022) (by omega) (by omega))) (fun c10 => ?_)
              refine lv_dload_n hx hb dX5_bitsOfDouble_60 rfl (lv_at hl 0 rfl) ?_
              refine lv_dconst1 hx hb dX5_bitsOfDouble_61 ?_
              refine lv_dcmp hx hb dX5_bitsOfDouble_62 ?_
              refine lv_if_ge (tgt := 81) hx hb dX5_bitsOfDouble_63 (by decide) (fun c11 => ?_) (fun c11 => ?_)
              · have hk6 : k2 = 1023 := by rcases Nat.lt_or_ge k2 1023 with q | q; exact absurd (d_lt1 hk5 q ht5) (Int32.not_lt.mpr c11); omega
                obtain ⟨u9, v9, hu, hun, hv, hvn, hl9⟩ := d_frac ht5
                refine lv_iload hx hb dX5_bitsOfDouble_81 (lv_at hl 1 rfl) ?_
                refine lv_i2l hx hb dX5_bitsOfDouble_83 rfl ?_
                refine lv_bipush (v := 52) hx hb dX5_bitsOfDouble_84 (by decide) ?_
                refine lv_lshl (v := ((Int32.toInt64 (nI X2)) <<< ((52 : Int32).toInt64 &&& 63))) hx hb dX5_bitsOfDouble_86 rfl ?_
                refine lv_dload_n hx hb dX5_bitsOfDouble_87 rfl (lv_at hl 0 rfl) ?_
                refine lv_dconst1 hx hb dX5_bitsOfDouble_88 ?_
                refine lv_dsub hx hb dX5_bitsOfDouble_89 (by rw [(show FP.dsub (dE k2 t5) FP.dconst1 = u9 by rw [hk6]; exact hu)]; exact hun) ?_
                rw [(show FP.dsub (dE k2 t5) FP.dconst1 = u9 by rw [hk6]; exact hu)]
                refine lv_ldc2d (v := (4841369599423283200)) hx hb hown (hts (.constantDouble RX5 338 (4841369599423283200)) (List.mem_of_getElem? (i := 2) rfl)) dX5_bitsOfDouble_90 ?_
                refine lv_dmul hx hb dX5_bitsOfDouble_93 (by rw [hv]; exact hvn) ?_
                rw [hv]
                refine lv_d2l hx hb dX5_bitsOfDouble_94 ?_
                refine lv_ladd hx hb dX5_bitsOfDouble_95 ?_
                exact W.lret hx hb hr (fun t ht hW => ⟨⟨((Int32.toInt64 (nI X2)) <<< ((52 : Int32).toInt64 &&& 63)) + (FP.d2l v9), s.heap, rfl, ⟨rfl, by rw [hl9, show X2 = e9 by omega]; exact (d_bits h1 h2 ht5).symm⟩, ht⟩, hS.F ht⟩) hS.2.2 dX5_bitsOfDouble_96
              have hg2 : k2 < 1023 := by rcases Nat.lt_or_ge k2 1023 with q | q; exact q; exact absurd (Int32.not_lt.mp (d_ge1 q (by omega) ht5)) c11
              obtain ⟨Y2, rfl⟩ : ∃ Y2, X2 = Y2 + 1 := ⟨X2 - 1, by omega⟩
              refine lv_dload_n hx hb dX5_bitsOfDouble_66 rfl (lv_at hl 0 rfl) ?_
              refine lv_ldc2d (v := (4611686018427387904)) hx hb hown (hts (.constantDouble RX5 336 (4611686018427387904)) (List.mem_of_getElem? (i := 1) rfl)) dX5_bitsOfDouble_67 ?_
              refine lv_dmul hx hb dX5_bitsOfDouble_70 (by rw [d_dbl (e := k2) (t := t5) hk5 (by omega) ht5]; exact dE_n (by omega) ht5) ?_
              rw [d_dbl (e := k2) (t := t5) hk5 (by omega) ht5]
              refine lv_dstore_n (lv' := [(2, .double (dE (k2 + 1) t5)), (4, .int (nI (Y2 + 1))), (5, .int (nI i2))]) hx hb dX5_bitsOfDouble_71 rfl hl (by decide) rfl (fun ls hl => ?_)
              refine lv_iinc (v := nI Y2) (lv' := [(4, .int (nI Y2)), (2, .double (dE (k2 + 1) t5)), (5, .int (nI i2))]) hx hb dX5_bitsOfDouble_72 hl (k := 1) rfl (nI_dec Y2) (by decide) rfl (fun ls hl => ?_)
              refine lv_iinc (v := nI (i2 + 1)) (lv' := [(5, .int (nI (i2 + 1))), (4, .int (nI Y2)), (2, .double (dE (k2 + 1) t5))]) hx hb dX5_bitsOfDouble_75 hl (k := 2) rfl (nI_1 i2) (by decide) rfl (fun ls hl => ?_)
              refine lv_goto (tgt := 52) hx hb dX5_bitsOfDouble_78 (by decide) ?_
              exact ih52 (i2 + 1) (k2 + 1) Y2 (by omega) (by omega) (by omega) (by omega) (by omega) _ hS _ (lv_sub hl [2, 1, 0] rfl)
          exact loop52 1022 0 k X rfl hX hk2 (by omega) hk1.1 _ hS _ (lv_sub hl [1, 2, 0] rfl)
        have hg : 1024 ≤ k := by rcases Nat.lt_or_ge k 1024 with q | q; exact absurd (d_lt2 hk1.1 q ht5) c8; exact q
        refine lv_dload_n hx hb dX5_bitsOfDouble_34 rfl (lv_at hl 0 rfl) ?_
        refine lv_ldc2d (v := (4611686018427387904)) hx hb hown (hts (.constantDouble RX5 336 (4611686018427387904)) (List.mem_of_getElem? (i := 1) rfl)) dX5_bitsOfDouble_35 ?_
        refine lv_ddiv hx hb dX5_bitsOfDouble_38 (by rw [d_half (e := k) (t := t5) (by omega) hk1.2 ht5]; exact dE_n (by omega) ht5) ?_
        rw [d_half (e := k) (t := t5) (by omega) hk1.2 ht5]
        refine lv_dstore_n (lv' := [(2, .double (dE (k - 1) t5)), (4, .int (nI X)), (5, .int (nI i))]) hx hb dX5_bitsOfDouble_39 rfl hl (by decide) rfl (fun ls hl => ?_)
        refine lv_iinc (v := nI (X + 1)) (lv' := [(4, .int (nI (X + 1))), (2, .double (dE (k - 1) t5)), (5, .int (nI i))]) hx hb dX5_bitsOfDouble_40 hl (k := 1) rfl (nI_1 X) (by decide) rfl (fun ls hl => ?_)
        refine lv_iinc (v := nI (i + 1)) (lv' := [(5, .int (nI (i + 1))), (4, .int (nI (X + 1))), (2, .double (dE (k - 1) t5))]) hx hb dX5_bitsOfDouble_43 hl (k := 2) rfl (nI_1 i) (by decide) rfl (fun ls hl => ?_)
        refine lv_goto (tgt := 18) hx hb dX5_bitsOfDouble_46 (by decide) ?_
        exact ih18 (i + 1) (k - 1) (X + 1) (by omega) (by omega) (Or.inl (by omega)) (by omega) _ hS _ (lv_sub hl [2, 1, 0] rfl)
    exact loop18 1023 0 e9 1023 rfl (by omega) (Or.inr ⟨rfl, rfl⟩) ⟨h1, h2⟩ _ hS _ (lv_sub hl [2, 1, 0] rfl)

set_option maxHeartbeats 600000 in
set_option maxRecDepth 100000 in
theorem c_X5_bitsOfFloat (l : Launch) (D : va_G) (G : Nat → ClassId) (x : UInt32) (H : Heap) (hx9 : okF x) : Met l yX5_bitsOfFloat wsX5_bitsOfFloat ({ frames := 0, cells := 0, slots := 0, locals := 0 } : Room) (va_Pc [.float x] (CX D G H)) (QI nA (fun r h => H = h ∧ x.toInt32 = r)) 0 0 (nA) := by
  refine Met.ofW (cc := cX5_bitsOfFloat) (maxL := 4) (ret := (some .int)) (by decide) rfl ?_
  intro p e s m args below meth c s₁ B0 hml hv
  obtain ⟨rfl, rfl, hK, hN⟩ := hv
  have hx := B0.exec
  have hb := B0.bytes
  have hr := B0.returns
  have hts := atoms_spec (ws := wsX5_bitsOfFloat) B0.pre
  have hown : s.vm.findClass RX5 = some m.cls := findClass_of_methodNamed B0.named
  have hlocks := B0.notSynchronized
  have hF : CallFix p m c cX5_bitsOfFloat 4 s ([.float x] : List Value).toArray wsX5_bitsOfFloat RX5 := ⟨hx, hb, hml, hown, hts⟩
  have hS : va_S (nA) s.heap s.heap [] := va_S.rf
  have hl := lv_entry ([.float x]) (n := 4) (Nat.le_of_ble_eq_true rfl)
  rw [lg_entry_eq]
  generalize (lg_sl ([.float x]) ++ List.replicate (4 - (lg_sl ([.float x])).length) Slot.unset).toArray = ls at hl ⊢
  have hl : lv_has ls 4 [(0, .float x)] := hl
  rcases hx9 with rfl | ⟨e9, t5, h1, h2, ht5, rfl⟩
  · refine lv_fload_n hx hb dX5_bitsOfFloat_0 rfl (lv_at hl 0 rfl) ?_
    refine lv_fconst0 hx hb dX5_bitsOfFloat_1 ?_
    refine lv_fcmp hx hb dX5_bitsOfFloat_2 ?_
    refine lv_if_gt (tgt := 8) hx hb dX5_bitsOfFloat_3 (by decide) (fun c1 => absurd c1 (by decide)) (fun c1 => ?_)
    refine lv_iconst (v := 0) hx hb dX5_bitsOfFloat_6 (by decide) ?_
    exact W.iret hx hb hr (fun t ht hW => ⟨⟨0, s.heap, rfl, ⟨rfl, by decide⟩, ht⟩, hS.F ht⟩) hS.2.2 dX5_bitsOfFloat_7
  · refine lv_fload_n hx hb dX5_bitsOfFloat_0 rfl (lv_at hl 0 rfl) ?_
    refine lv_fconst0 hx hb dX5_bitsOfFloat_1 ?_
    refine lv_fcmp hx hb dX5_bitsOfFloat_2 ?_
    refine lv_if_gt (tgt := 8) hx hb dX5_bitsOfFloat_3 (by decide) (fun c2 => ?_) (fun c2 => absurd (f_gt0 h1 h2 ht5) c2)
    refine lv_fload_n hx hb dX5_bitsOfFloat_8 rfl (lv_at hl 0 rfl) ?_
    refine lv_fstore_n (lv' := [(1, .float (fE e9 t5)), (0, .float (fE e9 t5))]) hx hb dX5_bitsOfFloat_9 rfl hl (by decide) rfl (fun ls hl => ?_)
    refine lv_bipush (v := 127) hx hb dX5_bitsOfFloat_10 (by decide) ?_
    refine lv_istore_n (lv' := [(2, .int 127), (1, .float (fE e9 t5)), (0, .float (fE e9 t5))]) hx hb dX5_bitsOfFloat_12 rfl hl (by decide) rfl (fun ls hl => ?_)
    refine lv_iconst (v := 0) hx hb dX5_bitsOfFloat_13 (by decide) ?_
    refine lv_istore_n (lv' := [(3, .int 0), (2, .int 127), (1, .float (fE e9 t5)), (0, .float (fE e9 t5))]) hx hb dX5_bitsOfFloat_14 rfl hl (by decide) rfl (fun ls hl => ?_)
    have loop15 : ∀ (m9 : Nat) (i : Nat) (k : Nat) (X : Nat) (_ : i + m9 = 127) (_ : X + k = e9 + 127) (_ : (X = 127 + i ∧ 127 ≤ k) ∨ (i = 0 ∧ k = e9)) (_ : 1 ≤ k ∧ k < 255) (locs : List Loc) (_ : va_S (nA) s.heap s.heap locs) (ls : Array Slot) (_ : lv_has ls 4 [(1, .float (fE k t5)), (2, .int (nI X)), (3, .int (nI i))]), W p l e (headSpec wsX5_bitsOfFloat ({ frames := 0, cells := 0, slots := 0, locals := 0 } : Room)).room s m ([.float (fE e9 t5)] : List Value).toArray below meth c s.heap locs 0 0 (MQ below (QI nA (fun r h => s.heap = h ∧ (fE e9 t5).toInt32 = r)) ([.float (fE e9 t5)] : List Value).toArray s 0 0 (nA)) (F0 m 15 ls []) := by
      intro m9
      induction m9 with
      | zero =>
        intro i k X hin hX hk hk1 locs hS ls hl
        refine lv_iload_n hx hb dX5_bitsOfFloat_15 rfl (lv_at hl 2 rfl) ?_
        refine lv_bipush (v := 127) hx hb dX5_bitsOfFloat_16 (by decide) ?_
        refine lv_icmp_ge (tgt := 40) hx hb dX5_bitsOfFloat_18 (by decide) (fun c3 => ?_) (fun c3 => absurd (nI_le (a := 127) (b := i) (by omega) (by omega)) c3)
        have hk2 : k ≤ 127 := by omega
        refine lv_iconst (v := 0) hx hb dX5_bitsOfFloat_40 (by decide) ?_
        refine lv_istore_n (lv' := [(3, .int 0), (1, .float (fE k t5)), (2, .int (nI X))]) hx hb dX5_bitsOfFloat_41 rfl hl (by decide) rfl (fun ls hl => ?_)
        have loop42 : ∀ (m8 : Nat) (i2 : Nat) (k2 : Nat) (X2 : Nat) (_ : i2 + m8 = 126) (_ : X2 + k2 = e9 + 127) (_ : k2 ≤ 127) (_ : k2 = 127 ∨ k2 = e9 + i2) (_ : 1 ≤ k2) (locs : List Loc) (_ : va_S (nA) s.heap s.heap locs) (ls : Array Slot) (_ : lv_has ls 4 [(1, .float (fE k2 t5)), (2, .int (nI X2)), (3, .int (nI i2))]), W p l e (headSpec wsX5_bitsOfFloat ({ frames := 0, cells := 0, slots := 0, locals := 0 } : Room)).room s m ([.float (fE e9 t5)] : List Value).toArray below meth c s.heap locs 0 0 (MQ below (QI nA (fun r h => s.heap = h ∧ (fE e9 t5).toInt32 = r)) ([.float (fE e9 t5)] : List Value).toArray s 0 0 (nA)) (F0 m 42 ls []) := by
          intro m8
          induction m8 with
          | zero =>
            intro i2 k2 X2 hin2 hX2 hk3 hk4 hk5 locs hS ls hl
            refine lv_iload_n hx hb dX5_bitsOfFloat_42 rfl (lv_at hl 2 rfl) ?_
            refine lv_bipush (v := 126) hx hb dX5_bitsOfFloat_43 (by decide) ?_
            refine lv_icmp_ge (tgt := 67) hx hb dX5_bitsOfFloat_45 (by decide) (fun c4 => ?_) (fun c4 => absurd (nI_le (a := 126) (b := i2) (by omega) (by omega)) c4)
            have hk6 : k2 = 127 := by omega
            obtain ⟨u9, v9, hu, hun, hv, hvn, hl9⟩ := f_frac ht5
            refine lv_iload_n hx hb dX5_bitsOfFloat_67 rfl (lv_at hl 1 rfl) ?_
            refine lv_bipush (v := 23) hx hb dX5_bitsOfFloat_68 (by decide) ?_
            refine lv_ishl hx hb dX5_bitsOfFloat_70 ?_
            refine lv_fload_n hx hb dX5_bitsOfFloat_71 rfl (lv_at hl 0 rfl) ?_
            refine lv_fconst1 hx hb dX5_bitsOfFloat_72 ?_
            refine lv_fsub hx hb dX5_bitsOfFloat_73 (by rw [(show FP.fsub (fE k2 t5) FP.fconst1 = u9 by rw [hk6]; exact hu)]; exact hun) ?_
            rw [(show FP.fsub (fE k2 t5) FP.fconst1 = u9 by rw [hk6]; exact hu)]
            refine lv_ldcwF (v := (1258291200)) hx hb hown (hts (.constantFloat RX5 340 (1258291200)) (List.mem_of_getElem? (i := 1) rfl)) dX5_bitsOfFloat_74 ?_
            refine lv_fmul hx hb dX5_bitsOfFloat_77 (by rw [hv]; exact hvn) ?_
            rw [hv]
            refine lv_f2i hx hb dX5_bitsOfFloat_78 ?_
            refine lv_iadd hx hb dX5_bitsOfFloat_79 ?_
            exact W.iret hx hb hr (fun t ht hW => ⟨⟨((nI X2) <<< (23 &&& 31)) + (FP.f2i v9), s.heap, rfl, ⟨rfl, by rw [hl9, show X2 = e9 by omega]; exact (f_bits h1 h2 ht5).symm⟩, ht⟩, hS.F ht⟩) hS.2.2 dX5_bitsOfFloat_80
          | succ m8 ih42 =>
            intro i2 k2 X2 hin2 hX2 hk3 hk4 hk5 locs hS ls hl
            refine lv_iload_n hx hb dX5_bitsOfFloat_42 rfl (lv_at hl 2 rfl) ?_
            refine lv_bipush (v := 126) hx hb dX5_bitsOfFloat_43 (by decide) ?_
            refine lv_icmp_ge (tgt := 67) hx hb dX5_bitsOfFloat_45 (by decide) (fun c5 => absurd c5 (nI_ge (a := i2) (b := 126) (by omega) (by omega))) (fun c5 => ?_)
            refine lv_fload_n hx hb dX5_bitsOfFloat_48 rfl (lv_at hl 0 rfl) ?_
            refine lv_fconst1 hx hb dX5_bitsOfFloat_49 ?_
            refine lv_fcmp hx hb dX5_bitsOfFloat_50 ?_
            refine lv_if_ge (tgt := 67) hx hb dX5_bitsOfFloat_51 (by decide) (fun c6 => ?_) (fun c6 => ?_)
            · have hk6 : k2 = 127 := by rcases Nat.lt_or_ge k2 127 with q | q; exact absurd (f_lt1 hk5 q ht5) (Int32.not_lt.mpr c6); omega
              obtain ⟨u9, v9, hu, hun, hv, hvn, hl9⟩ := f_frac ht5
              refine lv_iload_n hx hb dX5_bitsOfFloat_67 rfl (lv_at hl 1 rfl) ?_
              refine lv_bipush (v := 23) hx hb dX5_bitsOfFloat_68 (by decide) ?_
              refine lv_ishl hx hb dX5_bitsOfFloat_70 ?_
              refine lv_fload_n hx hb dX5_bitsOfFloat_71 rfl (lv_at hl 0 rfl) ?_
              refine lv_fconst1 hx hb dX5_bitsOfFloat_72 ?_
              refine lv_fsub hx hb dX5_bitsOfFloat_73 (by rw [(show FP.fsub (fE k2 t5) FP.fconst1 = u9 by rw [hk6]; exact hu)]; exact hun) ?_
              rw [(show FP.fsub (fE k2 t5) FP.fconst1 = u9 by rw [hk6]; exact hu)]
              refine lv_ldcwF (v := (1258291200)) hx hb hown (hts (.constantFloat RX5 340 (1258291200)) (List.mem_of_getElem? (i := 1) rfl)) dX5_bitsOfFloat_74 ?_
              refine lv_fmul hx hb dX5_bitsOfFloat_77 (by rw [hv]; exact hvn) ?_
              rw [hv]
              refine lv_f2i hx hb dX5_bitsOfFloat_78 ?_
              refine lv_iadd hx hb dX5_bitsOfFloat_79 ?_
              exact W.iret hx hb hr (fun t ht hW => ⟨⟨((nI X2) <<< (23 &&& 31)) + (FP.f2i v9), s.heap, rfl, ⟨rfl, by rw [hl9, show X2 = e9 by omega]; exact (f_bits h1 h2 ht5).symm⟩, ht⟩, hS.F ht⟩) hS.2.2 dX5_bitsOfFloat_80
            have hg2 : k2 < 127 := by rcases Nat.lt_or_ge k2 127 with q | q; exact q; exact absurd (Int32.not_lt.mp (f_ge1 q (by omega) ht5)) c6
            obtain ⟨Y2, rfl⟩ : ∃ Y2, X2 = Y2 + 1 := ⟨X2 - 1, by omega⟩
            refine lv_fload_n hx hb dX5_bitsOfFloat_54 rfl (lv_at hl 0 rfl) ?_
            refine lv_fconst2 hx hb dX5_bitsOfFloat_55 ?_
            refine lv_fmul hx hb dX5_bitsOfFloat_56 (by rw [f_dbl (e := k2) (t := t5) hk5 (by omega) ht5]; exact fE_n (by omega) ht5) ?_
            rw [f_dbl (e := k2) (t := t5) hk5 (by omega) ht5]
            refine lv_fstore_n (lv' := [(1, .float (fE (k2 + 1) t5)), (2, .int (nI (Y2 + 1))), (3, .int (nI i2))]) hx hb dX5_bitsOfFloat_57 rfl hl (by decide) rfl (fun ls hl => ?_)
            refine lv_iinc (v := nI Y2) (lv' := [(2, .int (nI Y2)), (1, .float (fE (k2 + 1) t5)), (3, .int (nI i2))]) hx hb dX5_bitsOfFloat_58 hl (k := 1) rfl (nI_dec Y2) (by decide) rfl (fun ls hl => ?_)
            refine lv_iinc (v := nI (i2 + 1)) (lv' := [(3, .int (nI (i2 + 1))), (2, .int (nI Y2)), (1, .float (fE (k2 + 1) t5))]) hx hb dX5_bitsOfFloat_61 hl (k := 2) rfl (nI_1 i2) (by decide) rfl (fun ls hl => ?_)
            refine lv_goto (tgt := 42) hx hb dX5_bitsOfFloat_64 (by decide) ?_
            exact ih42 (i2 + 1) (k2 + 1) Y2 (by omega) (by omega) (by omega) (by omega) (by omega) _ hS _ (lv_sub hl [2, 1, 0] rfl)
        exact loop42 126 0 k X rfl hX hk2 (by omega) hk1.1 _ hS _ (lv_sub hl [1, 2, 0] rfl)
      | succ m9 ih15 =>
        intro i k X hin hX hk hk1 locs hS ls hl
        refine lv_iload_n hx hb dX5_bitsOfFloat_15 rfl (lv_at hl 2 rfl) ?_
        refine lv_bipush (v := 127) hx hb dX5_bitsOfFloat_16 (by decide) ?_
        refine lv_icmp_ge (tgt := 40) hx hb dX5_bitsOfFloat_18 (by decide) (fun c7 => absurd c7 (nI_ge (a := i) (b := 127) (by omega) (by omega))) (fun c7 => ?_)
        refine lv_fload_n hx hb dX5_bitsOfFloat_21 rfl (lv_at hl 0 rfl) ?_
        refine lv_fconst2 hx hb dX5_bitsOfFloat_22 ?_
        refine lv_fcmp hx hb dX5_bitsOfFloat_23 ?_
        refine lv_if_lt (tgt := 40) hx hb dX5_bitsOfFloat_24 (by decide) (fun c8 => ?_) (fun c8 => ?_)
        · have hk2 : k ≤ 127 := by rcases Nat.lt_or_ge k 128 with q | q; omega; exact absurd c8 (f_ge2 q hk1.2 ht5)
          refine lv_iconst (v := 0) hx hb dX5_bitsOfFloat_40 (by decide) ?_
          refine lv_istore_n (lv' := [(3, .int 0), (1, .float (fE k t5)), (2, .int (nI X))]) hx hb dX5_bitsOfFloat_41 rfl hl (by decide) rfl (fun ls hl => ?_)
          have loop42 : ∀ (m8 : Nat) (i2 : Nat) (k2 : Nat) (X2 : Nat) (_ : i2 + m8 = 126) (_ : X2 + k2 = e9 + 127) (_ : k2 ≤ 127) (_ : k2 = 127 ∨ k2 = e9 + i2) (_ : 1 ≤ k2) (locs : List Loc) (_ : va_S (nA) s.heap s.heap locs) (ls : Array Slot) (_ : lv_has ls 4 [(1, .float (fE k2 t5)), (2, .int (nI X2)), (3, .int (nI i2))]), W p l e (headSpec wsX5_bitsOfFloat ({ frames := 0, cells := 0, slots := 0, locals := 0 } : Room)).room s m ([.float (fE e9 t5)] : List Value).toArray below meth c s.heap locs 0 0 (MQ below (QI nA (fun r h => s.heap = h ∧ (fE e9 t5).toInt32 = r)) ([.float (fE e9 t5)] : List Value).toArray s 0 0 (nA)) (F0 m 42 ls []) := by
            intro m8
            induction m8 with
            | zero =>
              intro i2 k2 X2 hin2 hX2 hk3 hk4 hk5 locs hS ls hl
              refine lv_iload_n hx hb dX5_bitsOfFloat_42 rfl (lv_at hl 2 rfl) ?_
              refine lv_bipush (v := 126) hx hb dX5_bitsOfFloat_43 (by decide) ?_
              refine lv_icmp_ge (tgt := 67) hx hb dX5_bitsOfFloat_45 (by decide) (fun c9 => ?_) (fun c9 => absurd (nI_le (a := 126) (b := i2) (by omega) (by omega)) c9)
              have hk6 : k2 = 127 := by omega
              obtain ⟨u9, v9, hu, hun, hv, hvn, hl9⟩ := f_frac ht5
              refine lv_iload_n hx hb dX5_bitsOfFloat_67 rfl (lv_at hl 1 rfl) ?_
              refine lv_bipush (v := 23) hx hb dX5_bitsOfFloat_68 (by decide) ?_
              refine lv_ishl hx hb dX5_bitsOfFloat_70 ?_
              refine lv_fload_n hx hb dX5_bitsOfFloat_71 rfl (lv_at hl 0 rfl) ?_
              refine lv_fconst1 hx hb dX5_bitsOfFloat_72 ?_
              refine lv_fsub hx hb dX5_bitsOfFloat_73 (by rw [(show FP.fsub (fE k2 t5) FP.fconst1 = u9 by rw [hk6]; exact hu)]; exact hun) ?_
              rw [(show FP.fsub (fE k2 t5) FP.fconst1 = u9 by rw [hk6]; exact hu)]
              refine lv_ldcwF (v := (1258291200)) hx hb hown (hts (.constantFloat RX5 340 (1258291200)) (List.mem_of_getElem? (i := 1) rfl)) dX5_bitsOfFloat_74 ?_
              refine lv_fmul hx hb dX5_bitsOfFloat_77 (by rw [hv]; exact hvn) ?_
              rw [hv]
              refine lv_f2i hx hb dX5_bitsOfFloat_78 ?_
              refine lv_iadd hx hb dX5_bitsOfFloat_79 ?_
              exact W.iret hx hb hr (fun t ht hW => ⟨⟨((nI X2) <<< (23 &&& 31)) + (FP.f2i v9), s.heap, rfl, ⟨rfl, by rw [hl9, show X2 = e9 by omega]; exact (f_bits h1 h2 ht5).symm⟩, ht⟩, hS.F ht⟩) hS.2.2 dX5_bitsOfFloat_80
            | succ m8 ih42 =>
              intro i2 k2 X2 hin2 hX2 hk3 hk4 hk5 locs hS ls hl
              refine lv_iload_n hx hb dX5_bitsOfFloat_42 rfl (lv_at hl 2 rfl) ?_
              refine lv_bipush (v := 126) hx hb dX5_bitsOfFloat_43 (by decide) ?_
              refine lv_icmp_ge (tgt := 67) hx hb dX5_bitsOfFloat_45 (by decide) (fun c10 => absurd c10 (nI_ge (a := i2) (b := 126) (by omega) (by omega))) (fun c10 => ?_)
              refine lv_fload_n hx hb dX5_bitsOfFloat_48 rfl (lv_at hl 0 rfl) ?_
              refine lv_fconst1 hx hb dX5_bitsOfFloat_49 ?_
              refine lv_fcmp hx hb dX5_bitsOfFloat_50 ?_
              refine lv_if_ge (tgt := 67) hx hb dX5_bitsOfFloat_51 (by decide) (fun c11 => ?_) (fun c11 => ?_)
              · have hk6 : k2 = 127 := by rcases Nat.lt_or_ge k2 127 with q | q; exact absurd (f_lt1 hk5 q ht5) (Int32.not_lt.mpr c11); omega
                obtain ⟨u9, v9, hu, hun, hv, hvn, hl9⟩ := f_frac ht5
                refine lv_iload_n hx hb dX5_bitsOfFloat_67 rfl (lv_at hl 1 rfl) ?_
                refine lv_bipush (v := 23) hx hb dX5_bitsOfFloat_68 (by decide) ?_
                refine lv_ishl hx hb dX5_bitsOfFloat_70 ?_
                refine lv_fload_n hx hb dX5_bitsOfFloat_71 rfl (lv_at hl 0 rfl) ?_
                refine lv_fconst1 hx hb dX5_bitsOfFloat_72 ?_
                refine lv_fsub hx hb dX5_bitsOfFloat_73 (by rw [(show FP.fsub (fE k2 t5) FP.fconst1 = u9 by rw [hk6]; exact hu)]; exact hun) ?_
                rw [(show FP.fsub (fE k2 t5) FP.fconst1 = u9 by rw [hk6]; exact hu)]
                refine lv_ldcwF (v := (1258291200)) hx hb hown (hts (.constantFloat RX5 340 (1258291200)) (List.mem_of_getElem? (i := 1) rfl)) dX5_bitsOfFloat_74 ?_
                refine lv_fmul hx hb dX5_bitsOfFloat_77 (by rw [hv]; exact hvn) ?_
                rw [hv]
                refine lv_f2i hx hb dX5_bitsOfFloat_78 ?_
                refine lv_iadd hx hb dX5_bitsOfFloat_79 ?_
                exact W.iret hx hb hr (fun t ht hW => ⟨⟨((nI X2) <<< (23 &&& 31)) + (FP.f2i v9), s.heap, rfl, ⟨rfl, by rw [hl9, show X2 = e9 by omega]; exact (f_bits h1 h2 ht5).symm⟩, ht⟩, hS.F ht⟩) hS.2.2 dX5_bitsOfFloat_80
              have hg2 : k2 < 127 := by rcases Nat.lt_or_ge k2 127 with q | q; exact q; exact absurd (Int32.not_lt.mp (f_ge1 q (by omega) ht5)) c11
              obtain ⟨Y2, rfl⟩ : ∃ Y2, X2 = Y2 + 1 := ⟨X2 - 1, by omega⟩
              refine lv_fload_n hx hb dX5_bitsOfFloat_54 rfl (lv_at hl 0 rfl) ?_
              refine lv_fconst2 hx hb dX5_bitsOfFloat_55 ?_
              refine lv_fmul hx hb dX5_bitsOfFloat_56 (by rw [f_dbl (e := k2) (t := t5) hk5 (by omega) ht5]; exact fE_n (by omega) ht5) ?_
              rw [f_dbl (e := k2) (t := t5) hk5 (by omega) ht5]
              refine lv_fstore_n (lv' := [(1, .float (fE (k2 + 1) t5)), (2, .int (nI (Y2 + 1))), (3, .int (nI i2))]) hx hb dX5_bitsOfFloat_57 rfl hl (by decide) rfl (fun ls hl => ?_)
              refine lv_iinc (v := nI Y2) (lv' := [(2, .int (nI Y2)), (1, .float (fE (k2 + 1) t5)), (3, .int (nI i2))]) hx hb dX5_bitsOfFloat_58 hl (k := 1) rfl (nI_dec Y2) (by decide) rfl (fun ls hl => ?_)
              refine lv_iinc (v := nI (i2 + 1)) (lv' := [(3, .int (nI (i2 + 1))), (2, .int (nI Y2)), (1, .float (fE (k2 + 1) t5))]) hx hb dX5_bitsOfFloat_61 hl (k := 2) rfl (nI_1 i2) (by decide) rfl (fun ls hl => ?_)
              refine lv_goto (tgt := 42) hx hb dX5_bitsOfFloat_64 (by decide) ?_
              exact ih42 (i2 + 1) (k2 + 1) Y2 (by omega) (by omega) (by omega) (by omega) (by omega) _ hS _ (lv_sub hl [2, 1, 0] rfl)
          exact loop42 126 0 k X rfl hX hk2 (by omega) hk1.1 _ hS _ (lv_sub hl [1, 2, 0] rfl)
        have hg : 128 ≤ k := by rcases Nat.lt_or_ge k 128 with q | q; exact absurd (f_lt2 hk1.1 q ht5) c8; exact q
        refine lv_fload_n hx hb dX5_bitsOfFloat_27 rfl (lv_at hl 0 rfl) ?_
        refine lv_fconst2 hx hb dX5_bitsOfFloat_28 ?_
        refine lv_fdiv hx hb dX5_bitsOfFloat_29 (by rw [f_half (e := k) (t := t5) (by omega) hk1.2 ht5]; exact fE_n (by omega) ht5) ?_
        rw [f_half (e := k) (t := t5) (by omega) hk1.2 ht5]
        refine lv_fstore_n (lv' := [(1, .float (fE (k - 1) t5)), (2, .int (nI X)), (3, .int (nI i))]) hx hb dX5_bitsOfFloat_30 rfl hl (by decide) rfl (fun ls hl => ?_)
        refine lv_iinc (v := nI (X + 1)) (lv' := [(2, .int (nI (X + 1))), (1, .float (fE (k - 1) t5)), (3, .int (nI i))]) hx hb dX5_bitsOfFloat_31 hl (k := 1) rfl (nI_1 X) (by decide) rfl (fun ls hl => ?_)
        refine lv_iinc (v := nI (i + 1)) (lv' := [(3, .int (nI (i + 1))), (2, .int (nI (X + 1))), (1, .float (fE (k - 1) t5))]) hx hb dX5_bitsOfFloat_34 hl (k := 2) rfl (nI_1 i) (by decide) rfl (fun ls hl => ?_)
        refine lv_goto (tgt := 15) hx hb dX5_bitsOfFloat_37 (by decide) ?_
        exact ih15 (i + 1) (k - 1) (X + 1) (by omega) (by omega) (Or.inl (by omega)) (by omega) _ hS _ (lv_sub hl [2, 1, 0] rfl)
    exact loop15 127 0 e9 127 rfl (by omega) (Or.inr ⟨rfl, rfl⟩) ⟨h1, h2⟩ _ hS _ (lv_sub hl [2, 1, 0] rfl)

set_option maxHeartbeats 600000 in
set_option maxRecDepth 100000 in
theorem c_X5_loadShare (l : Launch) (D : va_G) (G : Nat → ClassId) (α : Nat → Nat) (w : Nat → Nat) (R RT RS : Nat → Int32) (kp : Int32) (sv : Nat → Nat → Int32) (n : Nat) (F : Nat → Int32) (len : Nat)  (H : Heap) (hα : inj 115 α) (hw : pm w) (hD : DP D G α w R RT RS kp sv n F len H) (hbz : bz R) (hm : mono R) (hn6 : n ≤ 6) (hl6 : len ≤ 60) (hfd : ¬ rat R 3 = 0 → vf_n64 (FP.ddiv (FP.i2d (ld R)) (FP.i2d (rat R 3)))) : Met l yX5_loadShare wsX5_loadShare ({ frames := 2, cells := 0, slots := 0, locals := 43 } : Room) (va_Pc [.ref (α 0)] (CX D G H)) (QD nA (fun r h => H = h ∧ ldsh R = r)) 0 0 (nA) := by
  refine Met.ofW (cc := cX5_loadShare) (maxL := 2) (ret := (some .double)) (by decide) rfl ?_
  intro p e s m args below meth c s₁ B0 hml hv
  obtain ⟨rfl, rfl, hK, hN⟩ := hv
  have hx := B0.exec
  have hb := B0.bytes
  have hr := B0.returns
  have hts := atoms_spec (ws := wsX5_loadShare) B0.pre
  have hown : s.vm.findClass RX5 = some m.cls := findClass_of_methodNamed B0.named
  have hlocks := B0.notSynchronized
  have hF : CallFix p m c cX5_loadShare 2 s ([.ref (α 0)] : List Value).toArray wsX5_loadShare RX5 := ⟨hx, hb, hml, hown, hts⟩
  have hS : va_S (nA) s.heap s.heap [] := va_S.rf
  have hl := lv_entry ([.ref (α 0)]) (n := 2) (Nat.le_of_ble_eq_true rfl)
  rw [lg_entry_eq]
  generalize (lg_sl ([.ref (α 0)]) ++ List.replicate (2 - (lg_sl ([.ref (α 0)])).length) Slot.unset).toArray = ls at hl ⊢
  have hl : lv_has ls 2 [(0, .ref (α 0))] := hl
  refine lv_aload_n hx hb dX5_loadShare_0 rfl (lv_at hl 0 rfl) ?_
  refine dp_get hx hb hts (dp_hin 21 rfl) hown hK hD.1 rfl 0 (by decide) (hts (.fieldLink RX5 10 "DroopBoard" "board" "LDroopBoard$Board;") (List.mem_of_getElem? (i := 1) rfl)) rfl dX5_loadShare_1 ?_
  refine dp_Vi hF hK hN (c_X0_ratingsClosed l D G (aB α 0) R _ hD.2.1) (cwV 0 hts gX5_loadShare_X0_ratingsClosed rfl rfl rfl (by decide +kernel) ⟨Nat.le_of_ble_eq_true rfl, Nat.le_of_ble_eq_true rfl⟩) (dp_recv hK hD.2.1.1 rfl) hS nA_i [] rfl rfl hl.1 (Nat.le_of_ble_eq_true rfl) dX5_loadShare_4 ⟨Nat.le_of_ble_eq_true rfl, Nat.le_of_ble_eq_true rfl⟩ (fun rH1 H1 locs hp hzH1 hkH1 hS => ?_)
  obtain ⟨rfl, rfl⟩ := hp
  refine lv_istore_n (lv' := [(1, .int (rat R 3)), (0, .ref (α 0))]) hx hb dX5_loadShare_7 rfl hl (by decide) rfl (fun ls hl => ?_)
  refine lv_iload_n hx hb dX5_loadShare_8 rfl (lv_at hl 0 rfl) ?_
  refine lv_if_ne (tgt := 14) hx hb dX5_loadShare_9 (by decide) (fun c1 => ?_) (fun c1 => ?_)
  · refine lv_aload_n hx hb dX5_loadShare_14 rfl (lv_at hl 1 rfl) ?_
    refine dp_get hx hb hts (dp_hin 21 rfl) hown hK hD.1 rfl 0 (by decide) (hts (.fieldLink RX5 10 "DroopBoard" "board" "LDroopBoard$Board;") (List.mem_of_getElem? (i := 1) rfl)) rfl dX5_loadShare_15 ?_
    refine dp_Vi hF hK hN (c_X0_demand l D G (aB α 0) R _ hD.2.1) (cwV 0 hts gX5_loadShare_X0_demand rfl rfl rfl (by decide +kernel) ⟨Nat.le_of_ble_eq_true rfl, Nat.le_of_ble_eq_true rfl⟩) (dp_recv hK hD.2.1.1 rfl) hS nA_i [] rfl rfl hl.1 (Nat.le_of_ble_eq_true rfl) dX5_loadShare_18 ⟨Nat.le_of_ble_eq_true rfl, Nat.le_of_ble_eq_true rfl⟩ (fun rH2 H2 locs hp hzH2 hkH2 hS => ?_)
    obtain ⟨rfl, rfl⟩ := hp
    refine lv_i2d hx hb dX5_loadShare_21 ?_
    refine lv_iload_n hx hb dX5_loadShare_22 rfl (lv_at hl 0 rfl) ?_
    refine lv_i2d hx hb dX5_loadShare_23 ?_
    refine lv_ddiv hx hb dX5_loadShare_24 (hfd c1) ?_
    exact W.dret hx hb hr (fun t ht hW => ⟨⟨FP.ddiv (FP.i2d (ld R)) (FP.i2d (rat R 3)), s.heap, rfl, ⟨rfl, by rw [ldsh, if_neg c1]⟩, ht⟩, hS.F ht⟩) hS.2.2 dX5_loadShare_25
  refine lv_dconst0 hx hb dX5_loadShare_12 ?_
  exact W.dret hx hb hr (fun t ht hW => ⟨⟨FP.dconst0, s.heap, rfl, ⟨rfl, by rw [ldsh, if_pos c1]⟩, ht⟩, hS.F ht⟩) hS.2.2 dX5_loadShare_13

set_option maxHeartbeats 600000 in
set_option maxRecDepth 100000 in
theorem c_X5_meanPower (l : Launch) (D : va_G) (G : Nat → ClassId) (α : Nat → Nat) (w : Nat → Nat) (R RT RS : Nat → Int32) (kp : Int32) (sv : Nat → Nat → Int32) (n : Nat) (F : Nat → Int32) (len : Nat)  (H : Heap) (hα : inj 115 α) (hw : pm w) (hD : DP D G α w R RT RS kp sv n F len H) (hbz : bz R) (hm : mono R) (hn6 : n ≤ 6) (hl6 : len ≤ 60) (hfd : ¬ R 4 = 0 → vf_n32 (FP.fdiv (FP.i2f (R 7)) (FP.i2f (R 4)))) : Met l yX5_meanPower wsX5_meanPower ({ frames := 0, cells := 0, slots := 0, locals := 0 } : Room) (va_Pc [.ref (α 0)] (CX D G H)) (QF nA (fun r h => H = h ∧ mnpw R = r)) 0 0 (nA) := by
  refine Met.ofW (cc := cX5_meanPower) (maxL := 1) (ret := (some .float)) (by decide) rfl ?_
  intro p e s m args below meth c s₁ B0 hml hv
  obtain ⟨rfl, rfl, hK, hN⟩ := hv
  have hx := B0.exec
  have hb := B0.bytes
  have hr := B0.returns
  have hts := atoms_spec (ws := wsX5_meanPower) B0.pre
  have hown : s.vm.findClass RX5 = some m.cls := findClass_of_methodNamed B0.named
  have hlocks := B0.notSynchronized
  have hF : CallFix p m c cX5_meanPower 1 s ([.ref (α 0)] : List Value).toArray wsX5_meanPower RX5 := ⟨hx, hb, hml, hown, hts⟩
  have hS : va_S (nA) s.heap s.heap [] := va_S.rf
  have hl := lv_entry ([.ref (α 0)]) (n := 1) (Nat.le_of_ble_eq_true rfl)
  rw [lg_entry_eq]
  generalize (lg_sl ([.ref (α 0)]) ++ List.replicate (1 - (lg_sl ([.ref (α 0)])).length) Slot.unset).toArray = ls at hl ⊢
  have hl : lv_has ls 1 [(0, .ref (α 0))] := hl
  refine lv_aload_n hx hb dX5_meanPower_0 rfl (lv_at hl 0 rfl) ?_
  refine dp_get hx hb hts (dp_hin 4 rfl) hown hK hD.1 rfl 0 (by decide) (hts (.fieldLink RX5 10 "DroopBoard" "board" "LDroopBoard$Board;") (List.mem_of_getElem? (i := 1) rfl)) rfl dX5_meanPower_1 ?_
  refine dp_get hx hb hts (dp_hin 10 rfl) hown hK hD.2.1.1 rfl 3 (by decide) (hts (.fieldLink RX5 186 "DroopBoard$Board" "ticks" "I") (List.mem_of_getElem? (i := 2) rfl)) rfl dX5_meanPower_4 ?_
  refine lv_if_ne (tgt := 12) hx hb dX5_meanPower_7 (by decide) (fun c1 => ?_) (fun c1 => ?_)
  · refine lv_aload_n hx hb dX5_meanPower_12 rfl (lv_at hl 0 rfl) ?_
    refine dp_get hx hb hts (dp_hin 4 rfl) hown hK hD.1 rfl 0 (by decide) (hts (.fieldLink RX5 10 "DroopBoard" "board" "LDroopBoard$Board;") (List.mem_of_getElem? (i := 1) rfl)) rfl dX5_meanPower_13 ?_
    refine dp_get hx hb hts (dp_hin 10 rfl) hown hK hD.2.1.1 rfl 4 (by decide) (hts (.fieldLink RX5 228 "DroopBoard$Board" "energy" "I") (List.mem_of_getElem? (i := 3) rfl)) rfl dX5_meanPower_16 ?_
    refine lv_i2f hx hb dX5_meanPower_19 ?_
    refine lv_aload_n hx hb dX5_meanPower_20 rfl (lv_at hl 0 rfl) ?_
    refine dp_get hx hb hts (dp_hin 4 rfl) hown hK hD.1 rfl 0 (by decide) (hts (.fieldLink RX5 10 "DroopBoard" "board" "LDroopBoard$Board;") (List.mem_of_getElem? (i := 1) rfl)) rfl dX5_meanPower_21 ?_
    refine dp_get hx hb hts (dp_hin 10 rfl) hown hK hD.2.1.1 rfl 3 (by decide) (hts (.fieldLink RX5 186 "DroopBoard$Board" "ticks" "I") (List.mem_of_getElem? (i := 2) rfl)) rfl dX5_meanPower_24 ?_
    refine lv_i2f hx hb dX5_meanPower_27 ?_
    refine lv_fdiv hx hb dX5_meanPower_28 (hfd c1) ?_
    exact W.fret hx hb hr (fun t ht hW => ⟨⟨FP.fdiv (FP.i2f (R 7)) (FP.i2f (R 4)), s.heap, rfl, ⟨rfl, by rw [mnpw, if_neg c1]⟩, ht⟩, hS.F ht⟩) hS.2.2 dX5_meanPower_29
  refine lv_fconst0 hx hb dX5_meanPower_10 ?_
  exact W.fret hx hb hr (fun t ht hW => ⟨⟨FP.fconst0, s.heap, rfl, ⟨rfl, by rw [mnpw, if_pos c1]⟩, ht⟩, hS.F ht⟩) hS.2.2 dX5_meanPower_11

set_option maxHeartbeats 600000 in
set_option maxRecDepth 100000 in
theorem c_X5_mixed (l : Launch) (D : va_G) (G : Nat → ClassId) (x y : Int64) (H : Heap)  : Met l yX5_mixed wsX5_mixed ({ frames := 0, cells := 0, slots := 0, locals := 0 } : Room) (va_Pc [.long x, .long y] (CX D G H)) (QL nA (fun r h => H = h ∧ 31 * x + y = r)) 0 0 (nA) := by
  refine Met.ofW (cc := cX5_mixed) (maxL := 4) (ret := (some .long)) (by decide) rfl ?_
  intro p e s m args below meth c s₁ B0 hml hv
  obtain ⟨rfl, rfl, hK, hN⟩ := hv
  have hx := B0.exec
  have hb := B0.bytes
  have hr := B0.returns
  have hts := atoms_spec (ws := wsX5_mixed) B0.pre
  have hown : s.vm.findClass RX5 = some m.cls := findClass_of_methodNamed B0.named
  have hlocks := B0.notSynchronized
  have hF : CallFix p m c cX5_mixed 4 s ([.long x, .long y] : List Value).toArray wsX5_mixed RX5 := ⟨hx, hb, hml, hown, hts⟩
  have hS : va_S (nA) s.heap s.heap [] := va_S.rf
  have hl := lv_entry ([.long x, .long y]) (n := 4) (Nat.le_of_ble_eq_true rfl)
  rw [lg_entry_eq]
  generalize (lg_sl ([.long x, .long y]) ++ List.replicate (4 - (lg_sl ([.long x, .long y])).length) Slot.unset).toArray = ls at hl ⊢
  have hl : lv_has ls 4 [(0, .long x), (2, .long y)] := hl
  refine lv_ldc2 (v := (31)) hx hb hown (hts (.constantLong RX5 263 (31)) (List.mem_of_getElem? (i := 1) rfl)) dX5_mixed_0 ?_
  refine lv_lload_n hx hb dX5_mixed_3 rfl (lv_at hl 0 rfl) ?_
  refine lv_lmul hx hb dX5_mixed_4 ?_
  refine lv_lload_n hx hb dX5_mixed_5 rfl (lv_at hl 1 rfl) ?_
  refine lv_ladd hx hb dX5_mixed_6 ?_
  exact W.lret hx hb hr (fun t ht hW => ⟨⟨(31 * x) + y, s.heap, rfl, ⟨rfl, rfl⟩, ht⟩, hS.F ht⟩) hS.2.2 dX5_mixed_7
