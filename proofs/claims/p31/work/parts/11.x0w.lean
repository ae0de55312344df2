set_option maxHeartbeats 600000 in
set_option maxRecDepth 100000 in
theorem c_X2_copyFrom (l : Launch) (D : va_G) (G : Nat → ClassId) (a o i j : Nat) (R R2 : Nat → Int32) (H : Heap) (ha : va_at D vwCl (a, .inr (2, fF R i)) H) (ho : va_at D vwCl (o, .inr (2, fF R2 j)) H) (hne : o ≠ a) (hz1 : R2 (39 + 3 * j) = 0 ∨ R2 (39 + 3 * j) = 1) : Met l yX2_copyFrom wsX2_copyFrom ({ frames := 0, cells := 0, slots := 0, locals := 0 } : Room) (va_Pc [.ref a, .ref o] (CX D G H)) (QV (fun q => q = a) (fun h => Array.size h = Array.size H ∧ va_at D vwCl (a, .inr (2, fF R2 j)) h)) 0 0 (fun q => q = a) := by
  refine Met.ofW (cc := cX2_copyFrom) (maxL := 2) (ret := none) (by decide) rfl ?_
  intro p e s m args below meth c s₁ B0 hml hv
  obtain ⟨rfl, rfl, hK, hN⟩ := hv
  have hx := B0.exec
  have hb := B0.bytes
  have hr := B0.returns
  have hts := atoms_spec (ws := wsX2_copyFrom) B0.pre
  have hown : s.vm.findClass RX2 = some m.cls := findClass_of_methodNamed B0.named
  have hlocks := B0.notSynchronized
  have hF : CallFix p m c cX2_copyFrom 2 s ([.ref a, .ref o] : List Value).toArray wsX2_copyFrom RX2 := ⟨hx, hb, hml, hown, hts⟩
  have hS : va_S (fun q => q = a) s.heap s.heap [] := va_S.rf
  have hl := lv_entry ([.ref a, .ref o]) (n := 2) (Nat.le_of_ble_eq_true rfl)
  rw [lg_entry_eq]
  generalize (lg_sl ([.ref a, .ref o]) ++ List.replicate (2 - (lg_sl ([.ref a, .ref o])).length) Slot.unset).toArray = ls at hl ⊢
  have hl : lv_has ls 2 [(0, .ref a), (1, .ref o)] := hl
  refine lv_aload_n hx hb dX2_copyFrom_0 rfl (lv_at hl 0 rfl) ?_
  refine lv_aload_n hx hb dX2_copyFrom_1 rfl (lv_at hl 1 rfl) ?_
  refine dp_get hx hb hts (dp_hin 4 rfl) hown hK ho rfl 0 (by decide) (hts (.fieldLink RX2 13 "DroopBoard$Feeder" "load" "I") (List.mem_of_getElem? (i := 1) rfl)) rfl dX2_copyFrom_2 ?_
  refine dp_put (A := fun q => q = a) (v := .int (R2 (38 + 3 * j))) hx hb hts (dp_hin 4 rfl) tyX2 tyX2_ok nmX2 hown hK ha rfl hS rfl 0 (by decide) (hts (.fieldLink RX2 13 "DroopBoard$Feeder" "load" "I") (List.mem_of_getElem? (i := 1) rfl)) rfl rfl rfl (Nat.le_of_ble_eq_true rfl) dX2_copyFrom_5 (fun H1 locs hH1 hzH1 hkH1 hS => ?_)
  have ho := ho.kept (hkH1 _ hne)
  refine lv_aload_n hx hb dX2_copyFrom_8 rfl (lv_at hl 0 rfl) ?_
  refine lv_aload_n hx hb dX2_copyFrom_9 rfl (lv_at hl 1 rfl) ?_
  refine dp_get hx hb hts (dp_hin 4 rfl) hown hK ho rfl 1 (by decide) (hts (.fieldLink RX2 7 "DroopBoard$Feeder" "on" "Z") (List.mem_of_getElem? (i := 2) rfl)) rfl dX2_copyFrom_10 ?_
  refine dp_put (A := fun q => q = a) (v := .int (R2 (39 + 3 * j))) hx hb hts (dp_hin 4 rfl) tyX2 tyX2_ok nmX2 hown hK hH1 rfl hS rfl 1 (by decide) (hts (.fieldLink RX2 7 "DroopBoard$Feeder" "on" "Z") (List.mem_of_getElem? (i := 2) rfl)) rfl (nz_n hz1) (nz_f hz1) (Nat.le_of_ble_eq_true rfl) dX2_copyFrom_13 (fun H2 locs hH2 hzH2 hkH2 hS => ?_)
  have ho := ho.kept (hkH2 _ hne)
  refine lv_aload_n hx hb dX2_copyFrom_16 rfl (lv_at hl 0 rfl) ?_
  refine lv_aload_n hx hb dX2_copyFrom_17 rfl (lv_at hl 1 rfl) ?_
  refine dp_get hx hb hts (dp_hin 4 rfl) hown hK ho rfl 2 (by decide) (hts (.fieldLink RX2 17 "DroopBoard$Feeder" "sheds" "I") (List.mem_of_getElem? (i := 3) rfl)) rfl dX2_copyFrom_18 ?_
  refine dp_put (A := fun q => q = a) (v := .int (R2 (40 + 3 * j))) hx hb hts (dp_hin 4 rfl) tyX2 tyX2_ok nmX2 hown hK hH2 rfl hS rfl 2 (by decide) (hts (.fieldLink RX2 17 "DroopBoard$Feeder" "sheds" "I") (List.mem_of_getElem? (i := 3) rfl)) rfl rfl rfl (Nat.le_of_ble_eq_true rfl) dX2_copyFrom_21 (fun H3 locs hH3 hzH3 hkH3 hS => ?_)
  have ho := ho.kept (hkH3 _ hne)
  exact W.vret hx hb hr (fun t ht hW => ⟨⟨H3, rfl, ⟨(hzH3.trans (hzH2.trans hzH1)), hH3⟩, ht⟩, hS.F ht⟩) hS.2.2 dX2_copyFrom_24

set_option maxHeartbeats 600000 in
set_option maxRecDepth 100000 in
theorem c_X0_copyFrom (l : Launch) (D : va_G) (G : Nat → ClassId) (b o : Nat → Nat) (R R2 : Nat → Int32) (H : Heap) (hB : BD D G b R H) (hO : BD D G o R2 H) (hn : inj 11 b) (hdis : ∀ i j, i < 11 → j < 11 → b i ≠ o j) (hbz : bz R2) : Met l yX0_copyFrom wsX0_copyFrom ({ frames := 1, cells := 0, slots := 0, locals := 21 } : Room) (va_Pc [.ref (b 0), .ref (o 0)] (CX D G H)) (QV (bA 11 b) (fun h => Array.size h = Array.size H ∧ BD D G b (R2) h)) 0 0 (bA 11 b) := by
  refine Met.ofW (cc := cX0_copyFrom) (maxL := 3) (ret := none) (by decide) rfl ?_
  intro p e s m args below meth c s₁ B0 hml hv
  obtain ⟨rfl, rfl, hK, hN⟩ := hv
  have hx := B0.exec
  have hb := B0.bytes
  have hr := B0.returns
  have hts := atoms_spec (ws := wsX0_copyFrom) B0.pre
  have hown : s.vm.findClass RX0 = some m.cls := findClass_of_methodNamed B0.named
  have hlocks := B0.notSynchronized
  have hF : CallFix p m c cX0_copyFrom 3 s ([.ref (b 0), .ref (o 0)] : List Value).toArray wsX0_copyFrom RX0 := ⟨hx, hb, hml, hown, hts⟩
  have hS : va_S (bA 11 b) s.heap s.heap [] := va_S.rf
  have hl := lv_entry ([.ref (b 0), .ref (o 0)]) (n := 3) (Nat.le_of_ble_eq_true rfl)
  rw [lg_entry_eq]
  generalize (lg_sl ([.ref (b 0), .ref (o 0)]) ++ List.replicate (3 - (lg_sl ([.ref (b 0), .ref (o 0)])).length) Slot.unset).toArray = ls at hl ⊢
  have hl : lv_has ls 3 [(0, .ref (b 0)), (1, .ref (o 0))] := hl
  have hsz : Array.size s.heap = Array.size s.heap := rfl
  refine lv_iconst (v := 0) hx hb dX0_copyFrom_0 (by decide) ?_
  refine lv_istore_n (lv' := [(2, .int 0), (0, .ref (b 0)), (1, .ref (o 0))]) hx hb dX0_copyFrom_1 rfl hl (by decide) rfl (fun ls hl => ?_)
  have loop2 : ∀ (n : Nat) (i : Nat) (Hh : Heap) (_ : i + n = 3) (_ : BD D G b (cp1 R R2 i) Hh) (_ : BD D G o R2 Hh) (_ : Array.size Hh = Array.size s.heap) (locs : List Loc) (_ : va_S (bA 11 b) s.heap Hh locs) (ls : Array Slot) (_ : lv_has ls 3 [(0, .ref (b 0)), (1, .ref (o 0)), (2, .int (nI i))]), W p l e (headSpec wsX0_copyFrom ({ frames := 1, cells := 0, slots := 0, locals := 21 } : Room)).room s m ([.ref (b 0), .ref (o 0)] : List Value).toArray below meth c Hh locs 0 0 (MQ below (QV (bA 11 b) (fun h => Array.size h = Array.size s.heap ∧ BD D G b (R2) h)) ([.ref (b 0), .ref (o 0)] : List Value).toArray s 0 0 (bA 11 b)) (F0 m 2 ls []) := by
    intro n
    induction n with
    | zero =>
      intro i Hh hin hB hO hsz locs hS ls hl
      have hi9 : i = 3 := by omega
      have hB : BD D G b (cp2 R R2 0) Hh := by rw [hi9] at hB; exact hB
      refine lv_iload_n hx hb dX0_copyFrom_2 rfl (lv_at hl 2 rfl) ?_
      refine lv_iconst (v := 3) hx hb dX0_copyFrom_3 (by decide) ?_
      refine lv_icmp_ge (tgt := 28) hx hb dX0_copyFrom_4 (by decide) (fun c1 => ?_) (fun c1 => absurd (nI_le (a := 3) (b := i) (by omega) (by omega)) c1)
      refine lv_iconst (v := 0) hx hb dX0_copyFrom_28 (by decide) ?_
      refine lv_istore_n (lv' := [(2, .int 0), (0, .ref (b 0)), (1, .ref (o 0))]) hx hb dX0_copyFrom_29 rfl hl (by decide) rfl (fun ls hl => ?_)
      have loop30 : ∀ (n : Nat) (i : Nat) (Hg : Heap) (_ : i + n = 4) (_ : BD D G b (cp2 R R2 i) Hg) (_ : BD D G o R2 Hg) (_ : Array.size Hg = Array.size s.heap) (locs : List Loc) (_ : va_S (bA 11 b) s.heap Hg locs) (ls : Array Slot) (_ : lv_has ls 3 [(0, .ref (b 0)), (1, .ref (o 0)), (2, .int (nI i))]), W p l e (headSpec wsX0_copyFrom ({ frames := 1, cells := 0, slots := 0, locals := 21 } : Room)).room s m ([.ref (b 0), .ref (o 0)] : List Value).toArray below meth c Hg locs 0 0 (MQ below (QV (bA 11 b) (fun h => Array.size h = Array.size s.heap ∧ BD D G b (R2) h)) ([.ref (b 0), .ref (o 0)] : List Value).toArray s 0 0 (bA 11 b)) (F0 m 30 ls []) := by
        intro n
        induction n with
        | zero =>
          intro i Hg hin hB hO hsz locs hS ls hl
          have hi9 : i = 4 := by omega
          have hB : BD D G b (cp3 R R2 0) Hg := BD.cpS0 (by rw [hi9] at hB; exact hB)
          refine lv_iload_n hx hb dX0_copyFrom_30 rfl (lv_at hl 2 rfl) ?_
          refine lv_iconst (v := 4) hx hb dX0_copyFrom_31 (by decide) ?_
          refine lv_icmp_ge (tgt := 56) hx hb dX0_copyFrom_32 (by decide) (fun c2 => ?_) (fun c2 => absurd (nI_le (a := 4) (b := i) (by omega) (by omega)) c2)
          refine lv_iconst (v := 0) hx hb dX0_copyFrom_56 (by decide) ?_
          refine lv_istore_n (lv' := [(2, .int 0), (0, .ref (b 0)), (1, .ref (o 0))]) hx hb dX0_copyFrom_57 rfl hl (by decide) rfl (fun ls hl => ?_)
          have loop58 : ∀ (n : Nat) (i : Nat) (Hf : Heap) (_ : i + n = 4) (_ : BD D G b (cp3 R R2 i) Hf) (_ : BD D G o R2 Hf) (_ : Array.size Hf = Array.size s.heap) (locs : List Loc) (_ : va_S (bA 11 b) s.heap Hf locs) (ls : Array Slot) (_ : lv_has ls 3 [(0, .ref (b 0)), (1, .ref (o 0)), (2, .int (nI i))]), W p l e (headSpec wsX0_copyFrom ({ frames := 1, cells := 0, slots := 0, locals := 21 } : Room)).room s m ([.ref (b 0), .ref (o 0)] : List Value).toArray below meth c Hf locs 0 0 (MQ below (QV (bA 11 b) (fun h => Array.size h = Array.size s.heap ∧ BD D G b (R2) h)) ([.ref (b 0), .ref (o 0)] : List Value).toArray s 0 0 (bA 11 b)) (F0 m 58 ls []) := by
            intro n
            induction n with
            | zero =>
              intro i Hf hin hB hO hsz locs hS ls hl
              have hi9 : i = 4 := by omega
              rw [hi9] at hB
              refine lv_iload_n hx hb dX0_copyFrom_58 rfl (lv_at hl 2 rfl) ?_
              refine lv_iconst (v := 4) hx hb dX0_copyFrom_59 (by decide) ?_
              refine lv_icmp_ge (tgt := 81) hx hb dX0_copyFrom_60 (by decide) (fun c3 => ?_) (fun c3 => absurd (nI_le (a := 4) (b := i) (by omega) (by omega)) c3)
              refine lv_aload_n hx hb dX0_copyFrom_81 rfl (lv_at hl 0 rfl) ?_
              refine lv_aload_n hx hb dX0_copyFrom_82 rfl (lv_at hl 1 rfl) ?_
              refine dp_get hx hb hts (dp_hin 29 rfl) hown hK hO.1 rfl 3 (by decide) (hts (.fieldLink RX0 38 "DroopBoard$Board" "ticks" "I") (List.mem_of_getElem? (i := 4) rfl)) rfl dX0_copyFrom_83 ?_
              refine dp_put (A := bA 11 b) (v := .int (R2 4)) hx hb hts (dp_hin 29 rfl) tyX0 tyX0_ok nmX0 hown hK hB.1 ⟨0, by omega, rfl⟩ hS rfl 3 (by decide) (hts (.fieldLink RX0 38 "DroopBoard$Board" "ticks" "I") (List.mem_of_getElem? (i := 4) rfl)) rfl rfl rfl (Nat.le_of_ble_eq_true rfl) dX0_copyFrom_86 (fun H1 locs hH1 hzH1 hkH1 hS => ?_)
              have hB : BD D G b (upd (cp3 R R2 4) 4 (R2 4)) H1 := BD.putT hB hn hH1 hkH1
              have hsz := hzH1.trans hsz
              have hO := hO.off1 hkH1 (fun k hk e => hdis 0 k (by omega) hk e.symm)
              refine lv_aload_n hx hb dX0_copyFrom_89 rfl (lv_at hl 0 rfl) ?_
              refine lv_aload_n hx hb dX0_copyFrom_90 rfl (lv_at hl 1 rfl) ?_
              refine dp_get hx hb hts (dp_hin 29 rfl) hown hK hO.1 rfl 4 (by decide) (hts (.fieldLink RX0 42 "DroopBoard$Board" "energy" "I") (List.mem_of_getElem? (i := 5) rfl)) rfl dX0_copyFrom_91 ?_
              refine dp_put (A := bA 11 b) (v := .int (R2 7)) hx hb hts (dp_hin 29 rfl) tyX0 tyX0_ok nmX0 hown hK hB.1 ⟨0, by omega, rfl⟩ hS rfl 4 (by decide) (hts (.fieldLink RX0 42 "DroopBoard$Board" "energy" "I") (List.mem_of_getElem? (i := 5) rfl)) rfl rfl rfl (Nat.le_of_ble_eq_true rfl) dX0_copyFrom_94 (fun H2 locs hH2 hzH2 hkH2 hS => ?_)
              have hB : BD D G b (upd (upd (cp3 R R2 4) 4 (R2 4)) 7 (R2 7)) H2 := BD.putE hB hn hH2 hkH2
              have hsz := hzH2.trans hsz
              have hO := hO.off1 hkH2 (fun k hk e => hdis 0 k (by omega) hk e.symm)
              exact W.vret hx hb hr (fun t ht hW => ⟨⟨H2, rfl, ⟨hsz, hB.cpE⟩, ht⟩, hS.F ht⟩) hS.2.2 dX0_copyFrom_97
            | succ n ih58 =>
              intro i Hf hin hB hO hsz locs hS ls hl
              refine lv_iload_n hx hb dX0_copyFrom_58 rfl (lv_at hl 2 rfl) ?_
              refine lv_iconst (v := 4) hx hb dX0_copyFrom_59 (by decide) ?_
              refine lv_icmp_ge (tgt := 81) hx hb dX0_copyFrom_60 (by decide) (fun c4 => absurd c4 (nI_ge (a := i) (b := 4) (by omega) (by omega))) (fun c4 => ?_)
              refine lv_aload_n hx hb dX0_copyFrom_63 rfl (lv_at hl 0 rfl) ?_
              refine dp_get hx hb hts (dp_hin 29 rfl) hown hK hB.1 rfl 2 (by decide) (hts (.fieldLink RX0 23 "DroopBoard$Board" "settings" "[I") (List.mem_of_getElem? (i := 3) rfl)) rfl dX0_copyFrom_64 ?_
              refine lv_iload_n hx hb dX0_copyFrom_67 rfl (lv_at hl 2 rfl) ?_
              refine lv_aload_n hx hb dX0_copyFrom_68 rfl (lv_at hl 1 rfl) ?_
              refine dp_get hx hb hts (dp_hin 29 rfl) hown hK hO.1 rfl 2 (by decide) (hts (.fieldLink RX0 23 "DroopBoard$Board" "settings" "[I") (List.mem_of_getElem? (i := 3) rfl)) rfl dX0_copyFrom_69 ?_
              refine lv_iload_n hx hb dX0_copyFrom_72 rfl (lv_at hl 2 rfl) ?_
              refine dp_iald hx hb hK hO.2.2.2.1 0 rfl i rfl (by omega) (by decide) dX0_copyFrom_73 ?_
              refine dp_iast (A := bA 11 b) hx hb hK hB.2.2.2.1 ⟨3, by omega, rfl⟩ hS 0 rfl i rfl (by omega) (by decide) dX0_copyFrom_74 (fun H3 locs hH3 hzH3 hkH3 hS => ?_)
              have hB := hB.cpS hn (by omega) hH3 hkH3
              have hO := hO.off1 hkH3 (fun k hk e => hdis 3 k (by omega) hk e.symm)
              have hsz := hzH3.trans hsz
              refine lv_iinc (v := nI (i + 1)) (lv' := [(2, .int (nI (i + 1))), (0, .ref (b 0)), (1, .ref (o 0))]) hx hb dX0_copyFrom_75 hl (k := 2) rfl (nI_1 i) (by decide) rfl (fun ls hl => ?_)
              refine lv_goto (tgt := 58) hx hb dX0_copyFrom_78 (by decide) ?_
              exact ih58 (i + 1) H3 (by omega) hB hO hsz _ hS _ (lv_sub hl [1, 2, 0] rfl)
          exact loop58 4 0 Hg rfl hB hO hsz _ hS _ (lv_sub hl [1, 2, 0] rfl)
        | succ n ih30 =>
          intro i Hg hin hB hO hsz locs hS ls hl
          refine lv_iload_n hx hb dX0_copyFrom_30 rfl (lv_at hl 2 rfl) ?_
          refine lv_iconst (v := 4) hx hb dX0_copyFrom_31 (by decide) ?_
          refine lv_icmp_ge (tgt := 56) hx hb dX0_copyFrom_32 (by decide) (fun c5 => absurd c5 (nI_ge (a := i) (b := 4) (by omega) (by omega))) (fun c5 => ?_)
          refine lv_aload_n hx hb dX0_copyFrom_35 rfl (lv_at hl 0 rfl) ?_
          refine dp_get hx hb hts (dp_hin 29 rfl) hown hK hB.1 rfl 1 (by decide) (hts (.fieldLink RX0 19 "DroopBoard$Board" "feeders" "[LDroopBoard$Feeder;") (List.mem_of_getElem? (i := 2) rfl)) rfl dX0_copyFrom_36 ?_
          refine lv_iload_n hx hb dX0_copyFrom_39 rfl (lv_at hl 2 rfl) ?_
          refine dp_aald hx hb hK hB.2.2.1 2 rfl i rfl (by omega) (by decide) rfl dX0_copyFrom_40 ?_
          refine lv_aload_n hx hb dX0_copyFrom_41 rfl (lv_at hl 1 rfl) ?_
          refine dp_get hx hb hts (dp_hin 29 rfl) hown hK hO.1 rfl 1 (by decide) (hts (.fieldLink RX0 19 "DroopBoard$Board" "feeders" "[LDroopBoard$Feeder;") (List.mem_of_getElem? (i := 2) rfl)) rfl dX0_copyFrom_42 ?_
          refine lv_iload_n hx hb dX0_copyFrom_45 rfl (lv_at hl 2 rfl) ?_
          refine dp_aald hx hb hK hO.2.2.1 2 rfl i rfl (by omega) (by decide) rfl dX0_copyFrom_46 ?_
          refine dp_Vv hF hK hN (c_X2_copyFrom l D G (b (7 + i)) (o (7 + i)) i i (cp2 R R2 i) R2 _ (hB.2.2.2.2.2 i (by omega)) (hO.2.2.2.2.2 i (by omega)) (fun e => hdis (7 + i) (7 + i) (by omega) (by omega) e.symm) (hbz.2 i (by omega))) (cwV 1 hts gX0_copyFrom_X2_copyFrom rfl rfl rfl (by decide +kernel) ⟨Nat.le_of_ble_eq_true rfl, Nat.le_of_ble_eq_true rfl⟩) (dp_recv hK (hB.2.2.2.2.2 i (by omega)) rfl) hS (fun q hq => ⟨7 + i, by omega, hq⟩) [] rfl rfl hl.1 (Nat.le_of_ble_eq_true rfl) dX0_copyFrom_47 ⟨Nat.le_of_ble_eq_true rfl, Nat.le_of_ble_eq_true rfl⟩ (fun H4 locs hp hzH4 hkH4 hS => ?_)
          obtain ⟨hz9, hc9⟩ := hp
          have hB := hB.cpF hn (by omega) hc9 hkH4
          have hO := hO.off hkH4 (fun k hk e => hdis (7 + i) k (by omega) hk e.symm)
          have hsz := hz9.trans hsz
          refine lv_iinc (v := nI (i + 1)) (lv' := [(2, .int (nI (i + 1))), (0, .ref (b 0)), (1, .ref (o 0))]) hx hb dX0_copyFrom_50 hl (k := 2) rfl (nI_1 i) (by decide) rfl (fun ls hl => ?_)
          refine lv_goto (tgt := 30) hx hb dX0_copyFrom_53 (by decide) ?_
          exact ih30 (i + 1) H4 (by omega) hB hO hsz _ hS _ (lv_sub hl [1, 2, 0] rfl)
      exact loop30 4 0 Hh rfl hB hO hsz _ hS _ (lv_sub hl [1, 2, 0] rfl)
    | succ n ih2 =>
      intro i Hh hin hB hO hsz locs hS ls hl
      refine lv_iload_n hx hb dX0_copyFrom_2 rfl (lv_at hl 2 rfl) ?_
      refine lv_iconst (v := 3) hx hb dX0_copyFrom_3 (by decide) ?_
      refine lv_icmp_ge (tgt := 28) hx hb dX0_copyFrom_4 (by decide) (fun c6 => absurd c6 (nI_ge (a := i) (b := 3) (by omega) (by omega))) (fun c6 => ?_)
      refine lv_aload_n hx hb dX0_copyFrom_7 rfl (lv_at hl 0 rfl) ?_
      refine dp_get hx hb hts (dp_hin 29 rfl) hown hK hB.1 rfl 0 (by decide) (hts (.fieldLink RX0 11 "DroopBoard$Board" "diesels" "[LDroopBoard$Diesel;") (List.mem_of_getElem? (i := 1) rfl)) rfl dX0_copyFrom_8 ?_
      refine lv_iload_n hx hb dX0_copyFrom_11 rfl (lv_at hl 2 rfl) ?_
      refine dp_aald hx hb hK hB.2.1 1 rfl i rfl (by omega) (by decide) rfl dX0_copyFrom_12 ?_
      refine lv_aload_n hx hb dX0_copyFrom_13 rfl (lv_at hl 1 rfl) ?_
      refine dp_get hx hb hts (dp_hin 29 rfl) hown hK hO.1 rfl 0 (by decide) (hts (.fieldLink RX0 11 "DroopBoard$Board" "diesels" "[LDroopBoard$Diesel;") (List.mem_of_getElem? (i := 1) rfl)) rfl dX0_copyFrom_14 ?_
      refine lv_iload_n hx hb dX0_copyFrom_17 rfl (lv_at hl 2 rfl) ?_
      refine dp_aald hx hb hK hO.2.1 1 rfl i rfl (by omega) (by decide) rfl dX0_copyFrom_18 ?_
      refine dp_Vv hF hK hN (c_X1_copyFrom l D G (b (4 + i)) (o (4 + i)) i i (cp1 R R2 i) R2 _ (hB.2.2.2.2.1 i (by omega)) (hO.2.2.2.2.1 i (by omega)) (fun e => hdis (4 + i) (4 + i) (by omega) (by omega) e.symm) (hbz.1 i (by omega)).1 (hbz.1 i (by omega)).2) (cwV 1 hts gX0_copyFrom_X1_copyFrom rfl rfl rfl (by decide +kernel) ⟨Nat.le_of_ble_eq_true rfl, Nat.le_of_ble_eq_true rfl⟩) (dp_recv hK (hB.2.2.2.2.1 i (by omega)) rfl) hS (fun q hq => ⟨4 + i, by omega, hq⟩) [] rfl rfl hl.1 (Nat.le_of_ble_eq_true rfl) dX0_copyFrom_19 ⟨Nat.le_of_ble_eq_true rfl, Nat.le_of_ble_eq_true rfl⟩ (fun H5 locs hp hzH5 hkH5 hS => ?_)
      obtain ⟨hz9, hc9⟩ := hp
      have hB := hB.cpD hn (by omega) hc9 hkH5
      have hO := hO.off hkH5 (fun k hk e => hdis (4 + i) k (by omega) hk e.symm)
      have hsz := hz9.trans hsz
      refine lv_iinc (v := nI (i + 1)) (lv' := [(2, .int (nI (i + 1))), (0, .ref (b 0)), (1, .ref (o 0))]) hx hb dX0_copyFrom_22 hl (k := 2) rfl (nI_1 i) (by decide) rfl (fun ls hl => ?_)
      refine lv_goto (tgt := 2) hx hb dX0_copyFrom_25 (by decide) ?_
      exact ih2 (i + 1) H5 (by omega) hB hO hsz _ hS _ (lv_sub hl [1, 2, 0] rfl)
  exact loop2 3 0 s.heap rfl (hB.congr (fun k _ _ _ => by rw [cp1, if_neg (by omega)])) hO hsz _ hS _ (lv_sub hl [1, 2, 0] rfl)

set_option maxHeartbeats 600000 in
set_option maxRecDepth 100000 in
theorem c_X0_shed (l : Launch) (D : va_G) (G : Nat → ClassId) (b : Nat → Nat) (R : Nat → Int32) (H : Heap) (hB : BD D G b R H) (hn : inj 11 b) : Met l yX0_shed wsX0_shed ({ frames := 0, cells := 0, slots := 0, locals := 0 } : Room) (va_Pc [.ref (b 0)] (CX D G H)) (QV (bA 11 b) (fun h => Array.size h = Array.size H ∧ BD D G b (shd R) h)) 0 0 (bA 11 b) := by
  refine Met.ofW (cc := cX0_shed) (maxL := 2) (ret := none) (by decide) rfl ?_
  intro p e s m args below meth c s₁ B0 hml hv
  obtain ⟨rfl, rfl, hK, hN⟩ := hv
  have hx := B0.exec
  have hb := B0.bytes
  have hr := B0.returns
  have hts := atoms_spec (ws := wsX0_shed) B0.pre
  have hown : s.vm.findClass RX0 = some m.cls := findClass_of_methodNamed B0.named
  have hlocks := B0.notSynchronized
  have hF : CallFix p m c cX0_shed 2 s ([.ref (b 0)] : List Value).toArray wsX0_shed RX0 := ⟨hx, hb, hml, hown, hts⟩
  have hS : va_S (bA 11 b) s.heap s.heap [] := va_S.rf
  have hl := lv_entry ([.ref (b 0)]) (n := 2) (Nat.le_of_ble_eq_true rfl)
  rw [lg_entry_eq]
  generalize (lg_sl ([.ref (b 0)]) ++ List.replicate (2 - (lg_sl ([.ref (b 0)])).length) Slot.unset).toArray = ls at hl ⊢
  have hl : lv_has ls 2 [(0, .ref (b 0))] := hl
  have hsz : Array.size s.heap = Array.size s.heap := rfl
  refine lv_aload_n hx hb dX0_shed_0 rfl (lv_at hl 0 rfl) ?_
  refine dp_get hx hb hts (dp_hin 5 rfl) hown hK hB.1 rfl 1 (by decide) (hts (.fieldLink RX0 19 "DroopBoard$Board" "feeders" "[LDroopBoard$Feeder;") (List.mem_of_getElem? (i := 1) rfl)) rfl dX0_shed_1 ?_
  refine dp_alen hx hb hK hB.2.2.1 2 rfl dX0_shed_4 ?_
  refine lv_iconst (v := 1) hx hb dX0_shed_5 (by decide) ?_
  refine lv_isub hx hb dX0_shed_6 ?_
  refine lv_istore_n (lv' := [(1, .int ((nI 4) - 1)), (0, .ref (b 0))]) hx hb dX0_shed_7 rfl hl (by decide) rfl (fun ls hl => ?_)
  have loop8 : ∀ (n : Nat) (k : Nat) (v : Int32) (_ : k = n) (_ : v = nI k - 1) (_ : k ≤ 4) (_ : shk R 4 = shk R k) (locs : List Loc) (_ : va_S (bA 11 b) s.heap s.heap locs) (ls : Array Slot) (_ : lv_has ls 2 [(0, .ref (b 0)), (1, .int v)]), W p l e (headSpec wsX0_shed ({ frames := 0, cells := 0, slots := 0, locals := 0 } : Room)).room s m ([.ref (b 0)] : List Value).toArray below meth c s.heap locs 0 0 (MQ below (QV (bA 11 b) (fun h => Array.size h = Array.size s.heap ∧ BD D G b (shd R) h)) ([.ref (b 0)] : List Value).toArray s 0 0 (bA 11 b)) (F0 m 8 ls []) := by
    intro n
    induction n with
    | zero =>
      intro k v hk9 hv hk4 hsh locs hS ls hl
      have hv0 : v < 0 := by rw [hv, hk9]; decide
      refine lv_iload_n hx hb dX0_shed_8 rfl (lv_at hl 1 rfl) ?_
      refine lv_if_lt (tgt := 68) hx hb dX0_shed_9 (by decide) (fun c1 => ?_) (fun c1 => absurd hv0 c1)
      exact W.vret hx hb hr (fun t ht hW => ⟨⟨s.heap, rfl, ⟨rfl, by rw [shd, if_pos (hsh.trans (by rw [hk9]; rfl))]; exact hB⟩, ht⟩, hS.F ht⟩) hS.2.2 dX0_shed_68
    | succ n ih8 =>
      intro k v hk9 hv hk4 hsh locs hS ls hl
      have hvn : v = nI n := by rw [hv, hk9]; exact nI_pred n
      refine lv_iload_n hx hb dX0_shed_8 rfl (lv_at hl 1 rfl) ?_
      refine lv_if_lt (tgt := 68) hx hb dX0_shed_9 (by decide) (fun c2 => absurd c2 (by rw [hvn]; exact nI_pos (by omega))) (fun c2 => ?_)
      refine lv_aload_n hx hb dX0_shed_12 rfl (lv_at hl 0 rfl) ?_
      refine dp_get hx hb hts (dp_hin 5 rfl) hown hK hB.1 rfl 1 (by decide) (hts (.fieldLink RX0 19 "DroopBoard$Board" "feeders" "[LDroopBoard$Feeder;") (List.mem_of_getElem? (i := 1) rfl)) rfl dX0_shed_13 ?_
      refine lv_iload_n hx hb dX0_shed_16 rfl (lv_at hl 1 rfl) ?_
      refine dp_aald hx hb hK hB.2.2.1 2 rfl n hvn (by omega) (by decide) rfl dX0_shed_17 ?_
      refine dp_get hx hb hts (dp_hin 10 rfl) hown hK (hB.2.2.2.2.2 n (by omega)) rfl 1 (by decide) (hts (.fieldLink RX0 53 "DroopBoard$Feeder" "on" "Z") (List.mem_of_getElem? (i := 2) rfl)) rfl dX0_shed_18 ?_
      refine lv_if_eq (tgt := 62) hx hb dX0_shed_21 (by decide) (fun c3 => ?_) (fun c3 => ?_)
      · refine lv_iinc (v := v + (-1)) (lv' := [(1, .int (v + (-1))), (0, .ref (b 0))]) hx hb dX0_shed_62 hl (k := 1) rfl rfl (by decide) rfl (fun ls hl => ?_)
        refine lv_goto (tgt := 8) hx hb dX0_shed_65 (by decide) ?_
        exact ih8 n (v + (-1)) rfl (by rw [hvn, Int32.sub_eq_add_neg]) (by omega) (hsh.trans (by rw [hk9]; simp [shk, c3])) _ hS _ (lv_sub hl [1, 0] rfl)
      refine lv_aload_n hx hb dX0_shed_24 rfl (lv_at hl 0 rfl) ?_
      refine dp_get hx hb hts (dp_hin 5 rfl) hown hK hB.1 rfl 1 (by decide) (hts (.fieldLink RX0 19 "DroopBoard$Board" "feeders" "[LDroopBoard$Feeder;") (List.mem_of_getElem? (i := 1) rfl)) rfl dX0_shed_25 ?_
      refine lv_iload_n hx hb dX0_shed_28 rfl (lv_at hl 1 rfl) ?_
      refine dp_aald hx hb hK hB.2.2.1 2 rfl n hvn (by omega) (by decide) rfl dX0_shed_29 ?_
      refine dp_get hx hb hts (dp_hin 10 rfl) hown hK (hB.2.2.2.2.2 n (by omega)) rfl 0 (by decide) (hts (.fieldLink RX0 56 "DroopBoard$Feeder" "load" "I") (List.mem_of_getElem? (i := 3) rfl)) rfl dX0_shed_30 ?_
      refine lv_if_le (tgt := 62) hx hb dX0_shed_33 (by decide) (fun c4 => ?_) (fun c4 => ?_)
      · refine lv_iinc (v := v + (-1)) (lv' := [(1, .int (v + (-1))), (0, .ref (b 0))]) hx hb dX0_shed_62 hl (k := 1) rfl rfl (by decide) rfl (fun ls hl => ?_)
        refine lv_goto (tgt := 8) hx hb dX0_shed_65 (by decide) ?_
        exact ih8 n (v + (-1)) rfl (by rw [hvn, Int32.sub_eq_add_neg]) (by omega) (hsh.trans (by rw [hk9]; simp [shk, c3, c4])) _ hS _ (lv_sub hl [1, 0] rfl)
      refine lv_aload_n hx hb dX0_shed_36 rfl (lv_at hl 0 rfl) ?_
      refine dp_get hx hb hts (dp_hin 5 rfl) hown hK hB.1 rfl 1 (by decide) (hts (.fieldLink RX0 19 "DroopBoard$Board" "feeders" "[LDroopBoard$Feeder;") (List.mem_of_getElem? (i := 1) rfl)) rfl dX0_shed_37 ?_
      refine lv_iload_n hx hb dX0_shed_40 rfl (lv_at hl 1 rfl) ?_
      refine dp_aald hx hb hK hB.2.2.1 2 rfl n hvn (by omega) (by decide) rfl dX0_shed_41 ?_
      refine lv_iconst (v := 0) hx hb dX0_shed_42 (by decide) ?_
      refine dp_put (A := bA 11 b) (v := .int 0) hx hb hts (dp_hin 10 rfl) tyX2 tyX2_ok nmX2 hown hK (hB.2.2.2.2.2 n (by omega)) ⟨7 + n, by omega, rfl⟩ hS rfl 1 (by decide) (hts (.fieldLink RX0 53 "DroopBoard$Feeder" "on" "Z") (List.mem_of_getElem? (i := 2) rfl)) rfl rfl rfl (Nat.le_of_ble_eq_true rfl) dX0_shed_43 (fun H1 locs hH1 hzH1 hkH1 hS => ?_)
      have hB : BD D G b (upd R (39 + 3 * n) 0) H1 := BD.putF (k := 1) (by omega) hB hn (by omega) hH1 hkH1
      have hsz := hzH1.trans hsz
      refine lv_aload_n hx hb dX0_shed_46 rfl (lv_at hl 0 rfl) ?_
      refine dp_get hx hb hts (dp_hin 5 rfl) hown hK hB.1 rfl 1 (by decide) (hts (.fieldLink RX0 19 "DroopBoard$Board" "feeders" "[LDroopBoard$Feeder;") (List.mem_of_getElem? (i := 1) rfl)) rfl dX0_shed_47 ?_
      refine lv_iload_n hx hb dX0_shed_50 rfl (lv_at hl 1 rfl) ?_
      refine dp_aald hx hb hK hB.2.2.1 2 rfl n hvn (by omega) (by decide) rfl dX0_shed_51 ?_
      refine lv_dup hx hb dX0_shed_52 rfl ?_
      refine dp_get hx hb hts (dp_hin 10 rfl) hown hK (hB.2.2.2.2.2 n (by omega)) rfl 2 (by decide) (hts (.fieldLink RX0 112 "DroopBoard$Feeder" "sheds" "I") (List.mem_of_getElem? (i := 4) rfl)) rfl dX0_shed_53 ?_
      refine lv_iconst (v := 1) hx hb dX0_shed_56 (by decide) ?_
      refine lv_iadd hx hb dX0_shed_57 ?_
      refine dp_put (A := bA 11 b) (v := .int (((upd R (39 + 3 * n) 0) (40 + 3 * n)) + 1)) hx hb hts (dp_hin 10 rfl) tyX2 tyX2_ok nmX2 hown hK (hB.2.2.2.2.2 n (by omega)) ⟨7 + n, by omega, rfl⟩ hS rfl 2 (by decide) (hts (.fieldLink RX0 112 "DroopBoard$Feeder" "sheds" "I") (List.mem_of_getElem? (i := 4) rfl)) rfl rfl rfl (Nat.le_of_ble_eq_true rfl) dX0_shed_58 (fun H2 locs hH2 hzH2 hkH2 hS => ?_)
      have hB : BD D G b (upd (upd R (39 + 3 * n) 0) (40 + 3 * n) (((upd R (39 + 3 * n) 0) (40 + 3 * n)) + 1)) H2 := BD.putF (k := 2) (by omega) hB hn (by omega) hH2 hkH2
      have hsz := hzH2.trans hsz
      exact W.vret hx hb hr (fun t ht hW => ⟨⟨H2, rfl, ⟨hsz, by rw [shd, hsh.trans (show shk R k = n + 1 by rw [hk9]; simp [shk, c3, c4])]; rw [if_neg (by omega)]; exact BD.up6 (by unfold sh1; rw [upd_ne (by omega)] at hB; exact hB)⟩, ht⟩, hS.F ht⟩) hS.2.2 dX0_shed_61
  exact loop8 4 4 (nI 4 - 1) rfl rfl (Nat.le_refl _) rfl _ hS _ (lv_sub hl [1, 0] rfl)

set_option maxHeartbeats 600000 in
set_option maxRecDepth 100000 in
theorem c_X0_trip (l : Launch) (D : va_G) (G : Nat → ClassId) (b : Nat → Nat) (R : Nat → Int32) (H : Heap) (hB : BD D G b R H) (hn : inj 11 b) : Met l yX0_trip wsX0_trip ({ frames := 2, cells := 0, slots := 0, locals := 40 } : Room) (va_Pc [.ref (b 0)] (CX D G H)) (QI (bA 11 b) (fun r h => Array.size h = Array.size H ∧ BD D G b (trs R 3) h ∧ trm R 3 = r)) 0 0 (bA 11 b) := by
  refine Met.ofW (cc := cX0_trip) (maxL := 4) (ret := (some .int)) (by decide) rfl ?_
  intro p e s m args below meth c s₁ B0 hml hv
  obtain ⟨rfl, rfl, hK, hN⟩ := hv
  have hx := B0.exec
  have hb := B0.bytes
  have hr := B0.returns
  have hts := atoms_spec (ws := wsX0_trip) B0.pre
  have hown : s.vm.findClass RX0 = some m.cls := findClass_of_methodNamed B0.named
  have hlocks := B0.notSynchronized
  have hF : CallFix p m c cX0_trip 4 s ([.ref (b 0)] : List Value).toArray wsX0_trip RX0 := ⟨hx, hb, hml, hown, hts⟩
  have hS : va_S (bA 11 b) s.heap s.heap [] := va_S.rf
  have hl := lv_entry ([.ref (b 0)]) (n := 4) (Nat.le_of_ble_eq_true rfl)
  rw [lg_entry_eq]
  generalize (lg_sl ([.ref (b 0)]) ++ List.replicate (4 - (lg_sl ([.ref (b 0)])).length) Slot.unset).toArray = ls at hl ⊢
  have hl : lv_has ls 4 [(0, .ref (b 0))] := hl
  have hsz : Array.size s.heap = Array.size s.heap := rfl
  refine lv_iconst (v := 0) hx hb dX0_trip_0 (by decide) ?_
  refine lv_istore_n (lv' := [(1, .int 0), (0, .ref (b 0))]) hx hb dX0_trip_1 rfl hl (by decide) rfl (fun ls hl => ?_)
  refine lv_iconst (v := 0) hx hb dX0_trip_2 (by decide) ?_
  refine lv_istore_n (lv' := [(2, .int 0), (1, .int 0), (0, .ref (b 0))]) hx hb dX0_trip_3 rfl hl (by decide) rfl (fun ls hl => ?_)
  have loop4 : ∀ (n : Nat) (i : Nat) (acc : Int32) (Hh : Heap) (_ : i + n = 3) (_ : acc = trm R i) (_ : BD D G b (trs R i) Hh) (_ : Array.size Hh = Array.size s.heap) (locs : List Loc) (_ : va_S (bA 11 b) s.heap Hh locs) (ls : Array Slot) (_ : lv_has ls 4 [(0, .ref (b 0)), (1, .int acc), (2, .int (nI i))]), W p l e (headSpec wsX0_trip ({ frames := 2, cells := 0, slots := 0, locals := 40 } : Room)).room s m ([.ref (b 0)] : List Value).toArray below meth c Hh locs 0 0 (MQ below (QI (bA 11 b) (fun r h => Array.size h = Array.size s.heap ∧ BD D G b (trs R 3) h ∧ trm R 3 = r)) ([.ref (b 0)] : List Value).toArray s 0 0 (bA 11 b)) (F0 m 4 ls []) := by
    intro n
    induction n with
    | zero =>
      intro i acc Hh hin hacc hB hsz locs hS ls hl
      have hi9 : i = 3 := by omega
      rw [hi9] at hB hacc
      refine lv_iload_n hx hb dX0_trip_4 rfl (lv_at hl 2 rfl) ?_
      refine lv_aload_n hx hb dX0_trip_5 rfl (lv_at hl 0 rfl) ?_
      refine dp_get hx hb hts (dp_hin 19 rfl) hown hK hB.1 rfl 0 (by decide) (hts (.fieldLink RX0 11 "DroopBoard$Board" "diesels" "[LDroopBoard$Diesel;") (List.mem_of_getElem? (i := 1) rfl)) rfl dX0_trip_6 ?_
      refine dp_alen hx hb hK hB.2.1 1 rfl dX0_trip_9 ?_
      refine lv_icmp_ge (tgt := 69) hx hb dX0_trip_10 (by decide) (fun c1 => ?_) (fun c1 => absurd (nI_le (a := 3) (b := i) (by omega) (by omega)) c1)
      refine lv_iload_n hx hb dX0_trip_69 rfl (lv_at hl 1 rfl) ?_
      exact W.iret hx hb hr (fun t ht hW => ⟨⟨acc, Hh, rfl, ⟨hsz, hB, hacc.symm⟩, ht⟩, hS.F ht⟩) hS.2.2 dX0_trip_70
    | succ n ih4 =>
      intro i acc Hh hin hacc hB hsz locs hS ls hl
      refine lv_iload_n hx hb dX0_trip_4 rfl (lv_at hl 2 rfl) ?_
      refine lv_aload_n hx hb dX0_trip_5 rfl (lv_at hl 0 rfl) ?_
      refine dp_get hx hb hts (dp_hin 19 rfl) hown hK hB.1 rfl 0 (by decide) (hts (.fieldLink RX0 11 "DroopBoard$Board" "diesels" "[LDroopBoard$Diesel;") (List.mem_of_getElem? (i := 1) rfl)) rfl dX0_trip_6 ?_
      refine dp_alen hx hb hK hB.2.1 1 rfl dX0_trip_9 ?_
      refine lv_icmp_ge (tgt := 69) hx hb dX0_trip_10 (by decide) (fun c2 => absurd c2 (nI_ge (a := i) (b := 3) (by omega) (by omega))) (fun c2 => ?_)
      refine lv_aload_n hx hb dX0_trip_13 rfl (lv_at hl 0 rfl) ?_
      refine dp_get hx hb hts (dp_hin 19 rfl) hown hK hB.1 rfl 0 (by decide) (hts (.fieldLink RX0 11 "DroopBoard$Board" "diesels" "[LDroopBoard$Diesel;") (List.mem_of_getElem? (i := 1) rfl)) rfl dX0_trip_14 ?_
      refine lv_iload_n hx hb dX0_trip_17 rfl (lv_at hl 2 rfl) ?_
      refine dp_aald hx hb hK hB.2.1 1 rfl i rfl (by omega) (by decide) rfl dX0_trip_18 ?_
      refine lv_astore_n (lv' := [(3, .ref (b (4 + i))), (0, .ref (b 0)), (1, .int acc), (2, .int (nI i))]) hx hb dX0_trip_19 rfl hl (by decide) rfl (fun ls hl => ?_)
      refine lv_aload_n hx hb dX0_trip_20 rfl (lv_at hl 0 rfl) ?_
      refine dp_get hx hb hts (dp_hin 24 rfl) hown hK (hB.2.2.2.2.1 i (by omega)) rfl 6 (by decide) (hts (.fieldLink RX0 115 "DroopBoard$Diesel" "overloaded" "I") (List.mem_of_getElem? (i := 2) rfl)) rfl dX0_trip_21 ?_
      refine lv_aload_n hx hb dX0_trip_24 rfl (lv_at hl 1 rfl) ?_
      refine dp_get hx hb hts (dp_hin 19 rfl) hown hK hB.1 rfl 2 (by decide) (hts (.fieldLink RX0 23 "DroopBoard$Board" "settings" "[I") (List.mem_of_getElem? (i := 3) rfl)) rfl dX0_trip_25 ?_
      refine lv_iconst (v := 0) hx hb dX0_trip_28 (by decide) ?_
      refine dp_iald hx hb hK hB.2.2.2.1 0 rfl 0 rfl (by decide) (by decide) dX0_trip_29 ?_
      refine lv_icmp_ge (tgt := 46) hx hb dX0_trip_30 (by decide) (fun c3 => ?_) (fun c3 => ?_)
      · refine lv_aload_n hx hb dX0_trip_46 rfl (lv_at hl 0 rfl) ?_
        refine dp_Vv hF hK hN (c_X1_openBreaker l D G (b (4 + i)) i (trs R i) _ (hB.2.2.2.2.1 i (by omega))) (cwV 0 hts gX0_trip_X1_openBreaker rfl rfl rfl (by decide +kernel) ⟨Nat.le_of_ble_eq_true rfl, Nat.le_of_ble_eq_true rfl⟩) (dp_recv hK (hB.2.2.2.2.1 i (by omega)) rfl) hS (fun q hq => ⟨4 + i, by omega, hq⟩) [] rfl rfl hl.1 (Nat.le_of_ble_eq_true rfl) dX0_trip_47 ⟨Nat.le_of_ble_eq_true rfl, Nat.le_of_ble_eq_true rfl⟩ (fun H1 locs hp hzH1 hkH1 hS => ?_)
        obtain ⟨hz9, hc9⟩ := hp
        have hB := hB.rstD (k := 12) (Or.inr rfl) hn (by omega) hc9 hkH1
        have hsz := hz9.trans hsz
        refine lv_aload_n hx hb dX0_trip_50 rfl (lv_at hl 0 rfl) ?_
        refine lv_dup hx hb dX0_trip_51 rfl ?_
        refine dp_get hx hb hts (dp_hin 24 rfl) hown hK (hB.2.2.2.2.1 i (by omega)) rfl 9 (by decide) (hts (.fieldLink RX0 124 "DroopBoard$Diesel" "trips" "I") (List.mem_of_getElem? (i := 5) rfl)) rfl dX0_trip_52 ?_
        rw [rst17]
        refine lv_iconst (v := 1) hx hb dX0_trip_55 (by decide) ?_
        refine lv_iadd hx hb dX0_trip_56 ?_
        refine dp_put (A := bA 11 b) (v := .int (((trs R i) (17 + 10 * i)) + 1)) hx hb hts (dp_hin 24 rfl) tyX1 tyX1_ok nmX1 hown hK (hB.2.2.2.2.1 i (by omega)) ⟨4 + i, by omega, rfl⟩ hS rfl 9 (by decide) (hts (.fieldLink RX0 124 "DroopBoard$Diesel" "trips" "I") (List.mem_of_getElem? (i := 5) rfl)) rfl rfl rfl (Nat.le_of_ble_eq_true rfl) dX0_trip_57 (fun H2 locs hH2 hzH2 hkH2 hS => ?_)
        have hB : BD D G b (upd (rst (upd (trs R i) (12 + 10 * i) 0) i) (17 + 10 * i) (((trs R i) (17 + 10 * i)) + 1)) H2 := BD.putD (k := 9) (by omega) hB hn (by omega) hH2 hkH2
        have hsz := hzH2.trans hsz
        refine lv_iinc (v := acc + 1) (lv' := [(1, .int (acc + 1)), (3, .ref (b (4 + i))), (0, .ref (b 0)), (2, .int (nI i))]) hx hb dX0_trip_60 hl (k := 2) rfl rfl (by decide) rfl (fun ls hl => ?_)
        refine lv_iinc (v := nI (i + 1)) (lv' := [(2, .int (nI (i + 1))), (1, .int (acc + 1)), (3, .ref (b (4 + i))), (0, .ref (b 0))]) hx hb dX0_trip_63 hl (k := 3) rfl (nI_1 i) (by decide) rfl (fun ls hl => ?_)
        refine lv_goto (tgt := 4) hx hb dX0_trip_66 (by decide) ?_
        exact ih4 (i + 1) (acc + 1) H2 (by omega) (by rw [trm, trc, if_pos c3, hacc] <;> simp) (show BD D G b (trs R (i + 1)) _ by rw [trs, tr1, if_pos c3]; exact hB) hsz _ hS _ (lv_sub hl [3, 1, 0] rfl)
      refine lv_aload_n hx hb dX0_trip_33 rfl (lv_at hl 0 rfl) ?_
      refine dp_get hx hb hts (dp_hin 24 rfl) hown hK (hB.2.2.2.2.1 i (by omega)) rfl 7 (by decide) (hts (.fieldLink RX0 118 "DroopBoard$Diesel" "driven" "I") (List.mem_of_getElem? (i := 4) rfl)) rfl dX0_trip_34 ?_
      refine lv_aload_n hx hb dX0_trip_37 rfl (lv_at hl 1 rfl) ?_
      refine dp_get hx hb hts (dp_hin 19 rfl) hown hK hB.1 rfl 2 (by decide) (hts (.fieldLink RX0 23 "DroopBoard$Board" "settings" "[I") (List.mem_of_getElem? (i := 3) rfl)) rfl dX0_trip_38 ?_
      refine lv_iconst (v := 1) hx hb dX0_trip_41 (by decide) ?_
      refine dp_iald hx hb hK hB.2.2.2.1 0 rfl 1 rfl (by decide) (by decide) dX0_trip_42 ?_
      refine lv_icmp_lt (tgt := 63) hx hb dX0_trip_43 (by decide) (fun c4 => ?_) (fun c4 => ?_)
      · refine lv_iinc (v := nI (i + 1)) (lv' := [(2, .int (nI (i + 1))), (3, .ref (b (4 + i))), (0, .ref (b 0)), (1, .int acc)]) hx hb dX0_trip_63 hl (k := 3) rfl (nI_1 i) (by decide) rfl (fun ls hl => ?_)
        refine lv_goto (tgt := 4) hx hb dX0_trip_66 (by decide) ?_
        exact ih4 (i + 1) acc Hh (by omega) (by rw [trm, trc, if_neg c3, if_pos c4, hacc] <;> simp) (show BD D G b (trs R (i + 1)) _ by rw [trs, tr1, if_neg c3, if_pos c4]; exact hB) hsz _ hS _ (lv_sub hl [2, 3, 0] rfl)
      refine lv_aload_n hx hb dX0_trip_46 rfl (lv_at hl 0 rfl) ?_
      refine dp_Vv hF hK hN (c_X1_openBreaker l D G (b (4 + i)) i (trs R i) _ (hB.2.2.2.2.1 i (by omega))) (cwV 0 hts gX0_trip_X1_openBreaker rfl rfl rfl (by decide +kernel) ⟨Nat.le_of_ble_eq_true rfl, Nat.le_of_ble_eq_true rfl⟩) (dp_recv hK (hB.2.2.2.2.1 i (by omega)) rfl) hS (fun q hq => ⟨4 + i, by omega, hq⟩) [] rfl rfl hl.1 (Nat.le_of_ble_eq_true rfl) dX0_trip_47 ⟨Nat.le_of_ble_eq_true rfl, Nat.le_of_ble_eq_true rfl⟩ (fun H3 locs hp hzH3 hkH3 hS => ?_)
      obtain ⟨hz9, hc9⟩ := hp
      have hB := hB.rstD (k := 12) (Or.inr rfl) hn (by omega) hc9 hkH3
      have hsz := hz9.trans hsz
      refine lv_aload_n hx hb dX0_trip_50 rfl (lv_at hl 0 rfl) ?_
      refine lv_dup hx hb dX0_trip_51 rfl ?_
      refine dp_get hx hb hts (dp_hin 24 rfl) hown hK (hB.2.2.2.2.1 i (by omega)) rfl 9 (by decide) (hts (.fieldLink RX0 124 "DroopBoard$Diesel" "trips" "I") (List.mem_of_getElem? (i := 5) rfl)) rfl dX0_trip_52 ?_
      rw [rst17]
      refine lv_iconst (v := 1) hx hb dX0_trip_55 (by decide) ?_
      refine lv_iadd hx hb dX0_trip_56 ?_
      refine dp_put (A := bA 11 b) (v := .int (((trs R i) (17 + 10 * i)) + 1)) hx hb hts (dp_hin 24 rfl) tyX1 tyX1_ok nmX1 hown hK (hB.2.2.2.2.1 i (by omega)) ⟨4 + i, by omega, rfl⟩ hS rfl 9 (by decide) (hts (.fieldLink RX0 124 "DroopBoard$Diesel" "trips" "I") (List.mem_of_getElem? (i := 5) rfl)) rfl rfl rfl (Nat.le_of_ble_eq_true rfl) dX0_trip_57 (fun H4 locs hH4 hzH4 hkH4 hS => ?_)
      have hB : BD D G b (upd (rst (upd (trs R i) (12 + 10 * i) 0) i) (17 + 10 * i) (((trs R i) (17 + 10 * i)) + 1)) H4 := BD.putD (k := 9) (by omega) hB hn (by omega) hH4 hkH4
      have hsz := hzH4.trans hsz
      refine lv_iinc (v := acc + 1) (lv' := [(1, .int (acc + 1)), (3, .ref (b (4 + i))), (0, .ref (b 0)), (2, .int (nI i))]) hx hb dX0_trip_60 hl (k := 2) rfl rfl (by decide) rfl (fun ls hl => ?_)
      refine lv_iinc (v := nI (i + 1)) (lv' := [(2, .int (nI (i + 1))), (1, .int (acc + 1)), (3, .ref (b (4 + i))), (0, .ref (b 0))]) hx hb dX0_trip_63 hl (k := 3) rfl (nI_1 i) (by decide) rfl (fun ls hl => ?_)
      refine lv_goto (tgt := 4) hx hb dX0_trip_66 (by decide) ?_
      exact ih4 (i + 1) (acc + 1) H4 (by omega) (by rw [trm, trc, if_neg c3, if_neg c4, hacc] <;> simp) (show BD D G b (trs R (i + 1)) _ by rw [trs, tr1, if_neg c3, if_neg c4]; exact hB) hsz _ hS _ (lv_sub hl [3, 1, 0] rfl)
  exact loop4 3 0 0 s.heap rfl rfl hB hsz _ hS _ (lv_sub hl [2, 1, 0] rfl)

set_option maxHeartbeats 600000 in
set_option maxRecDepth 100000 in
theorem c_X0_tick (l : Launch) (D : va_G) (G : Nat → ClassId) (b : Nat → Nat) (R : Nat → Int32) (H : Heap) (hB : BD D G b R H) (hn : inj 11 b) (hm : mono R) : Met l yX0_tick wsX0_tick ({ frames := 3, cells := 0, slots := 0, locals := 69 } : Room) (va_Pc [.ref (b 0)] (CX D G H)) (QI (bA 11 b) (fun r h => Array.size h = Array.size H ∧ BD D G b (tk R) h ∧ tkn R = r)) 0 0 (bA 11 b) := by
  refine Met.ofW (cc := cX0_tick) (maxL := 4) (ret := (some .int)) (by decide) rfl ?_
  intro p e s m args below meth c s₁ B0 hml hv
  obtain ⟨rfl, rfl, hK, hN⟩ := hv
  have hx := B0.exec
  have hb := B0.bytes
  have hr := B0.returns
  have hts := atoms_spec (ws := wsX0_tick) B0.pre
  have hown : s.vm.findClass RX0 = some m.cls := findClass_of_methodNamed B0.named
  have hlocks := B0.notSynchronized
  have hF : CallFix p m c cX0_tick 4 s ([.ref (b 0)] : List Value).toArray wsX0_tick RX0 := ⟨hx, hb, hml, hown, hts⟩
  have hS : va_S (bA 11 b) s.heap s.heap [] := va_S.rf
  have hl := lv_entry ([.ref (b 0)]) (n := 4) (Nat.le_of_ble_eq_true rfl)
  rw [lg_entry_eq]
  generalize (lg_sl ([.ref (b 0)]) ++ List.replicate (4 - (lg_sl ([.ref (b 0)])).length) Slot.unset).toArray = ls at hl ⊢
  have hl : lv_has ls 4 [(0, .ref (b 0))] := hl
  have hsz : Array.size s.heap = Array.size s.heap := rfl
  refine lv_aload_n hx hb dX0_tick_0 rfl (lv_at hl 0 rfl) ?_
  refine dp_Vi hF hK hN (c_X0_frequency l D G b R _ hB hm) (cwV 0 hts gX0_tick_X0_frequency rfl rfl rfl (by decide +kernel) ⟨Nat.le_of_ble_eq_true rfl, Nat.le_of_ble_eq_true rfl⟩) (dp_recv hK hB.1 rfl) hS nA_i [] rfl rfl hl.1 (Nat.le_of_ble_eq_true rfl) dX0_tick_1 ⟨Nat.le_of_ble_eq_true rfl, Nat.le_of_ble_eq_true rfl⟩ (fun rH1 H1 locs hp hzH1 hkH1 hS => ?_)
  obtain ⟨rfl, rfl⟩ := hp
  refine lv_istore_n (lv' := [(1, .int (fq R)), (0, .ref (b 0))]) hx hb dX0_tick_4 rfl hl (by decide) rfl (fun ls hl => ?_)
  refine lv_aload_n hx hb dX0_tick_5 rfl (lv_at hl 1 rfl) ?_
  refine lv_iload_n hx hb dX0_tick_6 rfl (lv_at hl 0 rfl) ?_
  refine dp_Vi hF hK hN (c_X0_lack l D G b R (fq R) _ hB) (cwV 1 hts gX0_tick_X0_lack rfl rfl rfl (by decide +kernel) ⟨Nat.le_of_ble_eq_true rfl, Nat.le_of_ble_eq_true rfl⟩) (dp_recv hK hB.1 rfl) hS nA_i [] rfl rfl hl.1 (Nat.le_of_ble_eq_true rfl) dX0_tick_7 ⟨Nat.le_of_ble_eq_true rfl, Nat.le_of_ble_eq_true rfl⟩ (fun rH2 H2 locs hp hzH2 hkH2 hS => ?_)
  obtain ⟨rfl, rfl⟩ := hp
  refine lv_istore_n (lv' := [(2, .int (lk R (fq R))), (1, .int (fq R)), (0, .ref (b 0))]) hx hb dX0_tick_10 rfl hl (by decide) rfl (fun ls hl => ?_)
  refine lv_aload_n hx hb dX0_tick_11 rfl (lv_at hl 2 rfl) ?_
  refine lv_dup hx hb dX0_tick_12 rfl ?_
  refine dp_get hx hb hts (dp_hin 84 rfl) hown hK hB.1 rfl 4 (by decide) (hts (.fieldLink RX0 42 "DroopBoard$Board" "energy" "I") (List.mem_of_getElem? (i := 1) rfl)) rfl dX0_tick_13 ?_
  refine lv_aload_n hx hb dX0_tick_16 rfl (lv_at hl 2 rfl) ?_
  refine dp_Vi hF hK hN (c_X0_demand l D G b R _ hB) (cwV 0 hts gX0_tick_X0_demand rfl rfl rfl (by decide +kernel) ⟨Nat.le_of_ble_eq_true rfl, Nat.le_of_ble_eq_true rfl⟩) (dp_recv hK hB.1 rfl) hS nA_i [.int (R 7), .ref (b 0)] rfl rfl hl.1 (Nat.le_of_ble_eq_true rfl) dX0_tick_17 ⟨Nat.le_of_ble_eq_true rfl, Nat.le_of_ble_eq_true rfl⟩ (fun rH3 H3 locs hp hzH3 hkH3 hS => ?_)
  obtain ⟨rfl, rfl⟩ := hp
  refine lv_iload_n hx hb dX0_tick_20 rfl (lv_at hl 0 rfl) ?_
  refine lv_isub hx hb dX0_tick_21 ?_
  refine lv_iadd hx hb dX0_tick_22 ?_
  refine dp_put (A := bA 11 b) (v := .int ((R 7) + ((ld R) - (lk R (fq R))))) hx hb hts (dp_hin 84 rfl) tyX0 tyX0_ok nmX0 hown hK hB.1 ⟨0, by omega, rfl⟩ hS rfl 4 (by decide) (hts (.fieldLink RX0 42 "DroopBoard$Board" "energy" "I") (List.mem_of_getElem? (i := 1) rfl)) rfl rfl rfl (Nat.le_of_ble_eq_true rfl) dX0_tick_23 (fun H4 locs hH4 hzH4 hkH4 hS => ?_)
  have hB : BD D G b (upd R 7 ((R 7) + ((ld R) - (lk R (fq R))))) H4 := BD.putE hB hn hH4 hkH4
  have hsz := hzH4.trans hsz
  refine lv_iconst (v := 0) hx hb dX0_tick_26 (by decide) ?_
  refine lv_istore_n (lv' := [(3, .int 0), (2, .int (lk R (fq R))), (1, .int (fq R)), (0, .ref (b 0))]) hx hb dX0_tick_27 rfl hl (by decide) rfl (fun ls hl => ?_)
  have loop28 : ∀ (n : Nat) (i : Nat) (Hh : Heap) (_ : i + n = 3) (_ : BD D G b (tbs R i) Hh) (_ : Array.size Hh = Array.size s.heap) (locs : List Loc) (_ : va_S (bA 11 b) s.heap Hh locs) (ls : Array Slot) (_ : lv_has ls 4 [(0, .ref (b 0)), (1, .int (fq R)), (2, .int (lk R (fq R))), (3, .int (nI i))]), W p l e (headSpec wsX0_tick ({ frames := 3, cells := 0, slots := 0, locals := 69 } : Room)).room s m ([.ref (b 0)] : List Value).toArray below meth c Hh locs 0 0 (MQ below (QI (bA 11 b) (fun r h => Array.size h = Array.size s.heap ∧ BD D G b (tk R) h ∧ tkn R = r)) ([.ref (b 0)] : List Value).toArray s 0 0 (bA 11 b)) (F0 m 28 ls []) := by
    intro n
    induction n with
    | zero =>
      intro i Hh hin hB hsz locs hS ls hl
      have hi9 : i = 3 := by omega
      rw [hi9] at hB
      refine lv_iload_n hx hb dX0_tick_28 rfl (lv_at hl 3 rfl) ?_
      refine lv_aload_n hx hb dX0_tick_29 rfl (lv_at hl 0 rfl) ?_
      refine dp_get hx hb hts (dp_hin 84 rfl) hown hK hB.1 rfl 0 (by decide) (hts (.fieldLink RX0 11 "DroopBoard$Board" "diesels" "[LDroopBoard$Diesel;") (List.mem_of_getElem? (i := 2) rfl)) rfl dX0_tick_30 ?_
      refine dp_alen hx hb hK hB.2.1 1 rfl dX0_tick_33 ?_
      refine lv_icmp_ge (tgt := 59) hx hb dX0_tick_34 (by decide) (fun c1 => ?_) (fun c1 => absurd (nI_le (a := 3) (b := i) (by omega) (by omega)) c1)
      refine lv_iload_n hx hb dX0_tick_59 rfl (lv_at hl 2 rfl) ?_
      refine lv_if_le (tgt := 67) hx hb dX0_tick_60 (by decide) (fun c2 => ?_) (fun c2 => ?_)
      · have hB : BD D G b (tC R) Hh := by rw [tC, if_pos c2]; exact hB
        refine lv_aload_n hx hb dX0_tick_67 rfl (lv_at hl 0 rfl) ?_
        refine lv_dup hx hb dX0_tick_68 rfl ?_
        refine dp_get hx hb hts (dp_hin 84 rfl) hown hK hB.1 rfl 3 (by decide) (hts (.fieldLink RX0 38 "DroopBoard$Board" "ticks" "I") (List.mem_of_getElem? (i := 3) rfl)) rfl dX0_tick_69 ?_
        refine lv_iconst (v := 1) hx hb dX0_tick_72 (by decide) ?_
        refine lv_iadd hx hb dX0_tick_73 ?_
        refine dp_put (A := bA 11 b) (v := .int (((tC R) 4) + 1)) hx hb hts (dp_hin 84 rfl) tyX0 tyX0_ok nmX0 hown hK hB.1 ⟨0, by omega, rfl⟩ hS rfl 3 (by decide) (hts (.fieldLink RX0 38 "DroopBoard$Board" "ticks" "I") (List.mem_of_getElem? (i := 3) rfl)) rfl rfl rfl (Nat.le_of_ble_eq_true rfl) dX0_tick_74 (fun H5 locs hH5 hzH5 hkH5 hS => ?_)
        have hB : BD D G b (upd (tC R) 4 (((tC R) 4) + 1)) H5 := BD.putT hB hn hH5 hkH5
        have hsz := hzH5.trans hsz
        have hB : BD D G b (tD R) H5 := hB
        refine lv_aload_n hx hb dX0_tick_77 rfl (lv_at hl 0 rfl) ?_
        refine dp_Vi hF hK hN (c_X0_trip l D G b (tD R) _ hB hn) (cwV 0 hts gX0_tick_X0_trip rfl rfl rfl (by decide +kernel) ⟨Nat.le_of_ble_eq_true rfl, Nat.le_of_ble_eq_true rfl⟩) (dp_recv hK hB.1 rfl) hS (fun q hq => hq) [] rfl rfl hl.1 (Nat.le_of_ble_eq_true rfl) dX0_tick_78 ⟨Nat.le_of_ble_eq_true rfl, Nat.le_of_ble_eq_true rfl⟩ (fun rH6 H6 locs hp hzH6 hkH6 hS => ?_)
        obtain ⟨hz9, hB, hr9⟩ := hp
        have hsz := hz9.trans hsz
        exact W.iret hx hb hr (fun t ht hW => ⟨⟨rH6, H6, rfl, ⟨hsz, hB.up5, hr9⟩, ht⟩, hS.F ht⟩) hS.2.2 dX0_tick_81
      refine lv_aload_n hx hb dX0_tick_63 rfl (lv_at hl 0 rfl) ?_
      refine dp_Vv hF hK hN (c_X0_shed l D G b (tbs R 3) _ hB hn) (cwV 0 hts gX0_tick_X0_shed rfl rfl rfl (by decide +kernel) ⟨Nat.le_of_ble_eq_true rfl, Nat.le_of_ble_eq_true rfl⟩) (dp_recv hK hB.1 rfl) hS (fun q hq => hq) [] rfl rfl hl.1 (Nat.le_of_ble_eq_true rfl) dX0_tick_64 ⟨Nat.le_of_ble_eq_true rfl, Nat.le_of_ble_eq_true rfl⟩ (fun H7 locs hp hzH7 hkH7 hS => ?_)
      obtain ⟨hz9, hB⟩ := hp
      have hsz := hz9.trans hsz
      have hB : BD D G b (tC R) H7 := by rw [tC, if_neg c2]; exact hB
      refine lv_aload_n hx hb dX0_tick_67 rfl (lv_at hl 0 rfl) ?_
      refine lv_dup hx hb dX0_tick_68 rfl ?_
      refine dp_get hx hb hts (dp_hin 84 rfl) hown hK hB.1 rfl 3 (by decide) (hts (.fieldLink RX0 38 "DroopBoard$Board" "ticks" "I") (List.mem_of_getElem? (i := 3) rfl)) rfl dX0_tick_69 ?_
      refine lv_iconst (v := 1) hx hb dX0_tick_72 (by decide) ?_
      refine lv_iadd hx hb dX0_tick_73 ?_
      refine dp_put (A := bA 11 b) (v := .int (((tC R) 4) + 1)) hx hb hts (dp_hin 84 rfl) tyX0 tyX0_ok nmX0 hown hK hB.1 ⟨0, by omega, rfl⟩ hS rfl 3 (by decide) (hts (.fieldLink RX0 38 "DroopBoard$Board" "ticks" "I") (List.mem_of_getElem? (i := 3) rfl)) rfl rfl rfl (Nat.le_of_ble_eq_true rfl) dX0_tick_74 (fun H8 locs hH8 hzH8 hkH8 hS => ?_)
      have hB : BD D G b (upd (tC R) 4 (((tC R) 4) + 1)) H8 := BD.putT hB hn hH8 hkH8
      have hsz := hzH8.trans hsz
      have hB : BD D G b (tD R) H8 := hB
      refine lv_aload_n hx hb dX0_tick_77 rfl (lv_at hl 0 rfl) ?_
      refine dp_Vi hF hK hN (c_X0_trip l D G b (tD R) _ hB hn) (cwV 0 hts gX0_tick_X0_trip rfl rfl rfl (by decide +kernel) ⟨Nat.le_of_ble_eq_true rfl, Nat.le_of_ble_eq_true rfl⟩) (dp_recv hK hB.1 rfl) hS (fun q hq => hq) [] rfl rfl hl.1 (Nat.le_of_ble_eq_true rfl) dX0_tick_78 ⟨Nat.le_of_ble_eq_true rfl, Nat.le_of_ble_eq_true rfl⟩ (fun rH9 H9 locs hp hzH9 hkH9 hS => ?_)
      obtain ⟨hz9, hB, hr9⟩ := hp
      have hsz := hz9.trans hsz
      exact W.iret hx hb hr (fun t ht hW => ⟨⟨rH9, H9, rfl, ⟨hsz, hB.up5, hr9⟩, ht⟩, hS.F ht⟩) hS.2.2 dX0_tick_81
    | succ n ih28 =>
      intro i Hh hin hB hsz locs hS ls hl
      refine lv_iload_n hx hb dX0_tick_28 rfl (lv_at hl 3 rfl) ?_
      refine lv_aload_n hx hb dX0_tick_29 rfl (lv_at hl 0 rfl) ?_
      refine dp_get hx hb hts (dp_hin 84 rfl) hown hK hB.1 rfl 0 (by decide) (hts (.fieldLink RX0 11 "DroopBoard$Board" "diesels" "[LDroopBoard$Diesel;") (List.mem_of_getElem? (i := 2) rfl)) rfl dX0_tick_30 ?_
      refine dp_alen hx hb hK hB.2.1 1 rfl dX0_tick_33 ?_
      refine lv_icmp_ge (tgt := 59) hx hb dX0_tick_34 (by decide) (fun c3 => absurd c3 (nI_ge (a := i) (b := 3) (by omega) (by omega))) (fun c3 => ?_)
      refine lv_aload_n hx hb dX0_tick_37 rfl (lv_at hl 0 rfl) ?_
      refine dp_get hx hb hts (dp_hin 84 rfl) hown hK hB.1 rfl 0 (by decide) (hts (.fieldLink RX0 11 "DroopBoard$Board" "diesels" "[LDroopBoard$Diesel;") (List.mem_of_getElem? (i := 2) rfl)) rfl dX0_tick_38 ?_
      refine lv_iload_n hx hb dX0_tick_41 rfl (lv_at hl 3 rfl) ?_
      refine dp_aald hx hb hK hB.2.1 1 rfl i rfl (by omega) (by decide) rfl dX0_tick_42 ?_
      refine lv_aload_n hx hb dX0_tick_43 rfl (lv_at hl 0 rfl) ?_
      refine lv_iload_n hx hb dX0_tick_44 rfl (lv_at hl 3 rfl) ?_
      refine lv_iload_n hx hb dX0_tick_45 rfl (lv_at hl 1 rfl) ?_
      refine dp_Vi hF hK hN (c_X0_power l D G b (tbs R i) i (fq R) _ hB (by omega)) (cwV 2 hts gX0_tick_X0_power rfl rfl rfl (by decide +kernel) ⟨Nat.le_of_ble_eq_true rfl, Nat.le_of_ble_eq_true rfl⟩) (dp_recv hK hB.1 rfl) hS nA_i [.ref (b (4 + i))] rfl rfl hl.1 (Nat.le_of_ble_eq_true rfl) dX0_tick_46 ⟨Nat.le_of_ble_eq_true rfl, Nat.le_of_ble_eq_true rfl⟩ (fun rH10 H10 locs hp hzH10 hkH10 hS => ?_)
      obtain ⟨rfl, rfl⟩ := hp
      rw [pw_tbs (n := i) (i := i) (by omega) (by omega)]
      refine lv_iload_n hx hb dX0_tick_49 rfl (lv_at hl 1 rfl) ?_
      refine dp_Vv hF hK hN (c_X1_tick l D G (b (4 + i)) i (tbs R i) (pw R i (fq R)) (fq R) _ (hB.2.2.2.2.1 i (by omega))) (cwV 2 hts gX0_tick_X1_tick rfl rfl rfl (by decide +kernel) ⟨Nat.le_of_ble_eq_true rfl, Nat.le_of_ble_eq_true rfl⟩) (dp_recv hK (hB.2.2.2.2.1 i (by omega)) rfl) hS (fun q hq => ⟨4 + i, by omega, hq⟩) [] rfl rfl hl.1 (Nat.le_of_ble_eq_true rfl) dX0_tick_50 ⟨Nat.le_of_ble_eq_true rfl, Nat.le_of_ble_eq_true rfl⟩ (fun H11 locs hp hzH11 hkH11 hS => ?_)
      obtain ⟨hz9, hc9⟩ := hp
      have hB : BD D G b (tbs R (i + 1)) H11 := hB.dtkD hn (by omega) hc9 hkH11
      have hsz := hz9.trans hsz
      refine lv_iinc (v := nI (i + 1)) (lv' := [(3, .int (nI (i + 1))), (0, .ref (b 0)), (1, .int (fq R)), (2, .int (lk R (fq R)))]) hx hb dX0_tick_53 hl (k := 3) rfl (nI_1 i) (by decide) rfl (fun ls hl => ?_)
      refine lv_goto (tgt := 28) hx hb dX0_tick_56 (by decide) ?_
      exact ih28 (i + 1) H11 (by omega) hB hsz _ hS _ (lv_sub hl [1, 2, 3, 0] rfl)
  exact loop28 3 0 H4 rfl hB hsz _ hS _ (lv_sub hl [3, 2, 1, 0] rfl)

set_option maxHeartbeats 600000 in
set_option maxRecDepth 100000 in
theorem c_X0_passTicks (l : Launch) (D : va_G) (G : Nat → ClassId) (b : Nat → Nat) (R : Nat → Int32) (t : Nat) (H : Heap) (hB : BD D G b R H) (hn : inj 11 b) (ht : t < 2 ^ 31) (hm : ∀ k, k < t → mono (pt R k)) : Met l yX0_passTicks wsX0_passTicks ({ frames := 4, cells := 0, slots := 0, locals := 92 } : Room) (va_Pc [.ref (b 0), .int (nI t)] (CX D G H)) (QI (bA 11 b) (fun r h => Array.size h = Array.size H ∧ BD D G b (pt R t) h ∧ ptn R t = r)) 0 0 (bA 11 b) := by
  refine Met.ofW (cc := cX0_passTicks) (maxL := 4) (ret := (some .int)) (by decide) rfl ?_
  intro p e s m args below meth c s₁ B0 hml hv
  obtain ⟨rfl, rfl, hK, hN⟩ := hv
  have hx := B0.exec
  have hb := B0.bytes
  have hr := B0.returns
  have hts := atoms_spec (ws := wsX0_passTicks) B0.pre
  have hown : s.vm.findClass RX0 = some m.cls := findClass_of_methodNamed B0.named
  have hlocks := B0.notSynchronized
  have hF : CallFix p m c cX0_passTicks 4 s ([.ref (b 0), .int (nI t)] : List Value).toArray wsX0_passTicks RX0 := ⟨hx, hb, hml, hown, hts⟩
  have hS : va_S (bA 11 b) s.heap s.heap [] := va_S.rf
  have hl := lv_entry ([.ref (b 0), .int (nI t)]) (n := 4) (Nat.le_of_ble_eq_true rfl)
  rw [lg_entry_eq]
  generalize (lg_sl ([.ref (b 0), .int (nI t)]) ++ List.replicate (4 - (lg_sl ([.ref (b 0), .int (nI t)])).length) Slot.unset).toArray = ls at hl ⊢
  have hl : lv_has ls 4 [(0, .ref (b 0)), (1, .int (nI t))] := hl
  have hsz : Array.size s.heap = Array.size s.heap := rfl
  refine lv_iconst (v := 0) hx hb dX0_passTicks_0 (by decide) ?_
  refine lv_istore_n (lv' := [(2, .int 0), (0, .ref (b 0)), (1, .int (nI t))]) hx hb dX0_passTicks_1 rfl hl (by decide) rfl (fun ls hl => ?_)
  refine lv_iconst (v := 0) hx hb dX0_passTicks_2 (by decide) ?_
  refine lv_istore_n (lv' := [(3, .int 0), (2, .int 0), (0, .ref (b 0)), (1, .int (nI t))]) hx hb dX0_passTicks_3 rfl hl (by decide) rfl (fun ls hl => ?_)
  have loop4 : ∀ (n : Nat) (i : Nat) (acc : Int32) (Hh : Heap) (_ : i + n = t) (_ : acc = ptn R i) (_ : BD D G b (pt R i) Hh) (_ : Array.size Hh = Array.size s.heap) (locs : List Loc) (_ : va_S (bA 11 b) s.heap Hh locs) (ls : Array Slot) (_ : lv_has ls 4 [(0, .ref (b 0)), (1, .int (nI t)), (2, .int acc), (3, .int (nI i))]), W p l e (headSpec wsX0_passTicks ({ frames := 4, cells := 0, slots := 0, locals := 92 } : Room)).room s m ([.ref (b 0), .int (nI t)] : List Value).toArray below meth c Hh locs 0 0 (MQ below (QI (bA 11 b) (fun r h => Array.size h = Array.size s.heap ∧ BD D G b (pt R t) h ∧ ptn R t = r)) ([.ref (b 0), .int (nI t)] : List Value).toArray s 0 0 (bA 11 b)) (F0 m 4 ls []) := by
    intro n
    induction n with
    | zero =>
      intro i acc Hh hin hacc hB hsz locs hS ls hl
      have hi9 : i = t := by omega
      rw [hi9] at hB hacc
      refine lv_iload_n hx hb dX0_passTicks_4 rfl (lv_at hl 3 rfl) ?_
      refine lv_iload_n hx hb dX0_passTicks_5 rfl (lv_at hl 1 rfl) ?_
      refine lv_icmp_ge (tgt := 22) hx hb dX0_passTicks_6 (by decide) (fun c1 => ?_) (fun c1 => absurd (nI_le (a := t) (b := i) (by omega) (by omega)) c1)
      refine lv_iload_n hx hb dX0_passTicks_22 rfl (lv_at hl 2 rfl) ?_
      exact W.iret hx hb hr (fun t ht hW => ⟨⟨acc, Hh, rfl, ⟨hsz, hB, hacc.symm⟩, ht⟩, hS.F ht⟩) hS.2.2 dX0_passTicks_23
    | succ n ih4 =>
      intro i acc Hh hin hacc hB hsz locs hS ls hl
      refine lv_iload_n hx hb dX0_passTicks_4 rfl (lv_at hl 3 rfl) ?_
      refine lv_iload_n hx hb dX0_passTicks_5 rfl (lv_at hl 1 rfl) ?_
      refine lv_icmp_ge (tgt := 22) hx hb dX0_passTicks_6 (by decide) (fun c2 => absurd c2 (nI_ge (a := i) (b := t) (by omega) (by omega))) (fun c2 => ?_)
      refine lv_iload_n hx hb dX0_passTicks_9 rfl (lv_at hl 2 rfl) ?_
      refine lv_aload_n hx hb dX0_passTicks_10 rfl (lv_at hl 0 rfl) ?_
      refine dp_Vi hF hK hN (c_X0_tick l D G b (pt R i) _ hB hn (hm i (by omega))) (cwV 0 hts gX0_passTicks_X0_tick rfl rfl rfl (by decide +kernel) ⟨Nat.le_of_ble_eq_true rfl, Nat.le_of_ble_eq_true rfl⟩) (dp_recv hK hB.1 rfl) hS (fun q hq => hq) [.int acc] rfl rfl hl.1 (Nat.le_of_ble_eq_true rfl) dX0_passTicks_11 ⟨Nat.le_of_ble_eq_true rfl, Nat.le_of_ble_eq_true rfl⟩ (fun rH1 H1 locs hp hzH1 hkH1 hS => ?_)
      obtain ⟨hz9, hB, rfl⟩ := hp
      have hsz := hz9.trans hsz
      have hB : BD D G b (pt R (i + 1)) H1 := hB
      refine lv_iadd hx hb dX0_passTicks_14 ?_
      refine lv_istore_n (lv' := [(2, .int (acc + (tkn (pt R i)))), (0, .ref (b 0)), (1, .int (nI t)), (3, .int (nI i))]) hx hb dX0_passTicks_15 rfl hl (by decide) rfl (fun ls hl => ?_)
      refine lv_iinc (v := nI (i + 1)) (lv' := [(3, .int (nI (i + 1))), (2, .int (acc + (tkn (pt R i)))), (0, .ref (b 0)), (1, .int (nI t))]) hx hb dX0_passTicks_16 hl (k := 3) rfl (nI_1 i) (by decide) rfl (fun ls hl => ?_)
      refine lv_goto (tgt := 4) hx hb dX0_passTicks_19 (by decide) ?_
      exact ih4 (i + 1) (acc + (tkn (pt R i))) H1 (by omega) (by rw [ptn, hacc]) hB hsz _ hS _ (lv_sub hl [2, 3, 1, 0] rfl)
  exact loop4 t 0 0 s.heap (by omega) rfl hB hsz _ hS _ (lv_sub hl [2, 3, 1, 0] rfl)
