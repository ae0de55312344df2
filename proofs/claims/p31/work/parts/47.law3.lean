set_option maxHeartbeats 600000 in
set_option maxRecDepth 100000 in
theorem c_L_ticks (l : Launch) (D : va_G) (G : Nat → ClassId) (μ : Nat → Nat) (R P : Nat → Int32)  (H : Heap) (hμ : inj 4 μ) (hL : LB D G μ R P H) (hg : gd R) (hph : ph R) : Met l yL_ticks wsL_ticks ({ frames := 4, cells := 0, slots := 0, locals := 94 } : Room) (va_Pc [.ref (μ 0), .ref (μ 1), .ref (μ 2), .ref (μ 3)] (CX D G H)) (QI (bA 4 μ) (fun r h => tkn R = r ∧ LB D G μ (tk R) (pwv R) h)) 0 0 (bA 4 μ) := by
  refine Met.ofW (cc := cL_ticks) (maxL := 9) (ret := (some .int)) (by decide) rfl ?_
  intro p e s m args below meth c s₁ B0 hml hv
  obtain ⟨rfl, rfl, hK, hN⟩ := hv
  have hx := B0.exec
  have hb := B0.bytes
  have hr := B0.returns
  have hts := atoms_spec (ws := wsL_ticks) B0.pre
  have hown : s.vm.findClass RL = some m.cls := findClass_of_methodNamed B0.named
  have hlocks := B0.notSynchronized
  have hF : CallFix p m c cL_ticks 9 s ([.ref (μ 0), .ref (μ 1), .ref (μ 2), .ref (μ 3)] : List Value).toArray wsL_ticks RL := ⟨hx, hb, hml, hown, hts⟩
  have hS : va_S (bA 4 μ) s.heap s.heap [] := va_S.rf
  have hl := lv_entry ([.ref (μ 0), .ref (μ 1), .ref (μ 2), .ref (μ 3)]) (n := 9) (Nat.le_of_ble_eq_true rfl)
  rw [lg_entry_eq]
  generalize (lg_sl ([.ref (μ 0), .ref (μ 1), .ref (μ 2), .ref (μ 3)]) ++ List.replicate (9 - (lg_sl ([.ref (μ 0), .ref (μ 1), .ref (μ 2), .ref (μ 3)])).length) Slot.unset).toArray = ls at hl ⊢
  have hl : lv_has ls 9 [(0, .ref (μ 0)), (1, .ref (μ 1)), (2, .ref (μ 2)), (3, .ref (μ 3))] := hl
  refine lv_aload_n hx hb dL_ticks_0 rfl (lv_at hl 0 rfl) ?_
  refine lv_aload_n hx hb dL_ticks_1 rfl (lv_at hl 1 rfl) ?_
  refine dp_Si hF hK hN (c_L_frequency l D G μ R P  _ hμ hL hg) (va_cwS 2 hts gL_ticks_L_frequency rfl rfl rfl (by decide +kernel) ⟨Nat.le_of_ble_eq_true rfl, Nat.le_of_ble_eq_true rfl⟩) hS nA_i [] rfl rfl hl.1 (Nat.le_of_ble_eq_true rfl) dL_ticks_2 ⟨Nat.le_of_ble_eq_true rfl, Nat.le_of_ble_eq_true rfl⟩ (fun rH1 H1 locs hp hzH1 hkH1 hS => ?_)
  obtain ⟨rfl, rfl⟩ := hp
  refine lv_istore (lv' := [(4, .int (fq R)), (0, .ref (μ 0)), (1, .ref (μ 1)), (2, .ref (μ 2)), (3, .ref (μ 3))]) hx hb dL_ticks_5 hl (by decide) rfl (fun ls hl => ?_)
  refine lv_aload_n hx hb dL_ticks_7 rfl (lv_at hl 1 rfl) ?_
  refine lv_aload_n hx hb dL_ticks_8 rfl (lv_at hl 2 rfl) ?_
  refine lv_aload_n hx hb dL_ticks_9 rfl (lv_at hl 4 rfl) ?_
  refine dp_Sv hF hK hN (c_L_powers l D G μ R P  _ hμ hL hg) (va_cwS 3 hts gL_ticks_L_powers rfl rfl rfl (by decide +kernel) ⟨Nat.le_of_ble_eq_true rfl, Nat.le_of_ble_eq_true rfl⟩) hS (fun q hq => hq) [] rfl rfl hl.1 (Nat.le_of_ble_eq_true rfl) dL_ticks_10 ⟨Nat.le_of_ble_eq_true rfl, Nat.le_of_ble_eq_true rfl⟩ (fun H2 locs hp hzH2 hkH2 hS => ?_)
  replace hL := hp
  refine lv_aload_n hx hb dL_ticks_13 rfl (lv_at hl 3 rfl) ?_
  refine lv_iconst (v := 4) hx hb dL_ticks_14 (by decide) ?_
  refine lv_dup2_11 hx hb dL_ticks_15 rfl rfl ?_
  refine dp_iald hx hb hK hL.2.2.1 0 rfl 4 rfl (by decide) (by decide) dL_ticks_16 ?_
  refine lv_iconst (v := 1) hx hb dL_ticks_17 (by decide) ?_
  refine lv_iadd hx hb dL_ticks_18 ?_
  refine dp_iast (A := bA 4 μ) hx hb hK hL.2.2.1 (⟨2, by decide, rfl⟩ : bA 4 μ (μ 2)) hS 0 rfl (4) rfl (by decide) (by decide) dL_ticks_19 (fun H3 locs hH3 hzH3 hkH3 hS => ?_)
  have hL : LB D G μ (upd R 4 ((R 4) + 1)) (pwv R) H3 := hL.n hμ (by decide) hH3 hkH3
  obtain ⟨Q1, hQ1⟩ : ∃ Q1, Q1 = upd R 4 ((R 4) + 1) := ⟨_, rfl⟩
  rw [← hQ1] at hL
  refine lv_aload_n hx hb dL_ticks_20 rfl (lv_at hl 3 rfl) ?_
  refine lv_bipush (v := 7) hx hb dL_ticks_21 (by decide) ?_
  refine lv_dup2_11 hx hb dL_ticks_23 rfl rfl ?_
  refine dp_iald hx hb hK hL.2.2.1 0 rfl 7 rfl (by decide) (by decide) dL_ticks_24 ?_
  have hgl : gd Q1 := by rw [hQ1]; exact gd_lo hg (by omega)
  refine lv_aload_n hx hb dL_ticks_25 rfl (lv_at hl 1 rfl) ?_
  refine lv_aload_n hx hb dL_ticks_26 rfl (lv_at hl 2 rfl) ?_
  refine dp_Si hF hK hN (c_L_load l D G μ Q1 (pwv R)  _ hμ hL hgl) (va_cwS 2 hts gL_ticks_L_load rfl rfl rfl (by decide +kernel) ⟨Nat.le_of_ble_eq_true rfl, Nat.le_of_ble_eq_true rfl⟩) hS nA_i [.int (Q1 7), .int 7, .ref (μ 2)] rfl rfl hl.1 (Nat.le_of_ble_eq_true rfl) dL_ticks_27 ⟨Nat.le_of_ble_eq_true rfl, Nat.le_of_ble_eq_true rfl⟩ (fun rH4 H4 locs hp hzH4 hkH4 hS => ?_)
  obtain ⟨rfl, rfl⟩ := hp
  refine lv_aload_n hx hb dL_ticks_30 rfl (lv_at hl 4 rfl) ?_
  refine lv_iconst (v := 3) hx hb dL_ticks_31 (by decide) ?_
  refine dp_iald hx hb hK hL.2.2.2 0 rfl 3 rfl (by decide) (by decide) dL_ticks_32 ?_
  refine lv_isub hx hb dL_ticks_33 ?_
  refine lv_iadd hx hb dL_ticks_34 ?_
  refine dp_iast (A := bA 4 μ) hx hb hK hL.2.2.1 (⟨2, by decide, rfl⟩ : bA 4 μ (μ 2)) hS 0 rfl (7) rfl (by decide) (by decide) dL_ticks_35 (fun H5 locs hH5 hzH5 hkH5 hS => ?_)
  have hL : LB D G μ (upd Q1 7 ((Q1 7) + ((ld Q1) - ((pwv R) 3)))) (pwv R) H5 := hL.n hμ (by decide) hH5 hkH5
  obtain ⟨Q2, hQ2⟩ : ∃ Q2, Q2 = upd Q1 7 ((Q1 7) + ((ld Q1) - ((pwv R) 3))) := ⟨_, rfl⟩
  rw [← hQ2] at hL
  have hQ0 : Q2 = upd (tbs R 0) 4 (R 4 + 1) := by rw [hQ2, hQ1, pwv_3]; exact tA_4
  refine lv_iconst (v := 0) hx hb dL_ticks_36 (by decide) ?_
  refine lv_istore (lv' := [(5, .int 0), (4, .int (fq R)), (0, .ref (μ 0)), (1, .ref (μ 1)), (2, .ref (μ 2)), (3, .ref (μ 3))]) hx hb dL_ticks_37 hl (by decide) rfl (fun ls hl => ?_)
  refine lv_iconst (v := 0) hx hb dL_ticks_39 (by decide) ?_
  refine lv_istore (lv' := [(6, .int 0), (5, .int 0), (4, .int (fq R)), (0, .ref (μ 0)), (1, .ref (μ 1)), (2, .ref (μ 2)), (3, .ref (μ 3))]) hx hb dL_ticks_40 hl (by decide) rfl (fun ls hl => ?_)
  have loop42 : ∀ (m9 : Nat) (i : Nat) (tr : Int32) (Q9 : Nat → Int32) (Hh : Heap) (_ : i + m9 = 3) (_ : Q9 = upd (tbs R i) 4 (R 4 + 1)) (_ : tr = tbt R i) (_ : LB D G μ Q9 (pwv R) Hh) (locs : List Loc) (_ : va_S (bA 4 μ) s.heap Hh locs) (ls : Array Slot) (_ : lv_has ls 9 [(0, .ref (μ 0)), (1, .ref (μ 1)), (2, .ref (μ 2)), (3, .ref (μ 3)), (4, .int (fq R)), (5, .int tr), (6, .int (nI i))]), W p l e (headSpec wsL_ticks ({ frames := 4, cells := 0, slots := 0, locals := 94 } : Room)).room s m ([.ref (μ 0), .ref (μ 1), .ref (μ 2), .ref (μ 3)] : List Value).toArray below meth c Hh locs 0 0 (MQ below (QI (bA 4 μ) (fun r h => tkn R = r ∧ LB D G μ (tk R) (pwv R) h)) ([.ref (μ 0), .ref (μ 1), .ref (μ 2), .ref (μ 3)] : List Value).toArray s 0 0 (bA 4 μ)) (F0 m 42 ls []) := by
    intro m9
    induction m9 with
    | zero =>
      intro i tr Q9 Hh hin hQ htr hL locs hS ls hl
      have hgq := gd_tbq hg (by omega) hQ
      refine lv_iload hx hb dL_ticks_42 (lv_at hl 6 rfl) ?_
      refine lv_iconst (v := 3) hx hb dL_ticks_44 (by decide) ?_
      refine lv_icmp_ge (tgt := 258) hx hb dL_ticks_45 (by decide) (fun c1 => ?_) (fun c1 => absurd (nI_le (a := 3) (b := i) (by omega) (by omega)) c1)
      refine lv_iconst (v := (-1)) hx hb dL_ticks_258 (by decide) ?_
      refine lv_istore (lv' := [(6, .int (-1)), (0, .ref (μ 0)), (1, .ref (μ 1)), (2, .ref (μ 2)), (3, .ref (μ 3)), (4, .int (fq R)), (5, .int tr)]) hx hb dL_ticks_259 hl (by decide) rfl (fun ls hl => ?_)
      refine lv_iconst (v := 0) hx hb dL_ticks_261 (by decide) ?_
      refine lv_istore (lv' := [(7, .int 0), (6, .int (-1)), (0, .ref (μ 0)), (1, .ref (μ 1)), (2, .ref (μ 2)), (3, .ref (μ 3)), (4, .int (fq R)), (5, .int tr)]) hx hb dL_ticks_262 hl (by decide) rfl (fun ls hl => ?_)
      have hi3 : i = 3 := by omega
      rw [hi3] at hQ htr
      have hgq := gd_tbq hg (Nat.le_refl _) hQ
      have loop264 : ∀ (m8 : Nat) (k : Nat) (la9 : Int32) (_ : k + m8 = 4) (_ : la9 + 1 = nI (if lk R (fq R) ≤ 0 then 0 else shk Q9 k)) (locs : List Loc) (_ : va_S (bA 4 μ) s.heap Hh locs) (ls : Array Slot) (_ : lv_has ls 9 [(0, .ref (μ 0)), (1, .ref (μ 1)), (2, .ref (μ 2)), (3, .ref (μ 3)), (5, .int tr), (6, .int la9), (7, .int (nI k))]), W p l e (headSpec wsL_ticks ({ frames := 4, cells := 0, slots := 0, locals := 94 } : Room)).room s m ([.ref (μ 0), .ref (μ 1), .ref (μ 2), .ref (μ 3)] : List Value).toArray below meth c Hh locs 0 0 (MQ below (QI (bA 4 μ) (fun r h => tkn R = r ∧ LB D G μ (tk R) (pwv R) h)) ([.ref (μ 0), .ref (μ 1), .ref (μ 2), .ref (μ 3)] : List Value).toArray s 0 0 (bA 4 μ)) (F0 m 264 ls []) := by
        intro m8
        induction m8 with
        | zero =>
          intro k la9 hk8 hla locs hS ls hl
          refine lv_iload hx hb dL_ticks_264 (lv_at hl 6 rfl) ?_
          refine lv_iconst (v := 4) hx hb dL_ticks_266 (by decide) ?_
          refine lv_icmp_ge (tgt := 308) hx hb dL_ticks_267 (by decide) (fun c2 => ?_) (fun c2 => absurd (nI_le (a := 4) (b := k) (by omega) (by omega)) c2)
          refine lv_iload hx hb dL_ticks_308 (lv_at hl 5 rfl) ?_
          rw [show k = 4 by omega] at hla
          refine lv_if_lt (tgt := 339) hx hb dL_ticks_310 (by decide) (fun c3 => ?_) (fun c3 => ?_)
          · rw [ls_T hQ hla c3] at hL
            refine lv_iconst (v := 0) hx hb dL_ticks_339 (by decide) ?_
            refine lv_istore (lv' := [(7, .int 0), (0, .ref (μ 0)), (1, .ref (μ 1)), (2, .ref (μ 2)), (3, .ref (μ 3)), (5, .int tr), (6, .int la9)]) hx hb dL_ticks_340 hl (by decide) rfl (fun ls hl => ?_)
            refine lv_iconst (v := 0) hx hb dL_ticks_342 (by decide) ?_
            refine lv_istore (lv' := [(8, .int 0), (7, .int 0), (0, .ref (μ 0)), (1, .ref (μ 1)), (2, .ref (μ 2)), (3, .ref (μ 3)), (5, .int tr), (6, .int la9)]) hx hb dL_ticks_343 hl (by decide) rfl (fun ls hl => ?_)
            have htr3 : tr = tbt R 3 := htr
            have loop345 : ∀ (m7 : Nat) (i7 : Nat) (many : Int32) (Q7 : Nat → Int32) (H7 : Heap) (_ : i7 + m7 = 3) (_ : Q7 = trs (tD R) i7) (_ : many = trm (tD R) i7) (_ : LB D G μ Q7 (pwv R) H7) (locs : List Loc) (_ : va_S (bA 4 μ) s.heap H7 locs) (ls : Array Slot) (_ : lv_has ls 9 [(0, .ref (μ 0)), (1, .ref (μ 1)), (2, .ref (μ 2)), (3, .ref (μ 3)), (5, .int tr), (7, .int many), (8, .int (nI i7))]), W p l e (headSpec wsL_ticks ({ frames := 4, cells := 0, slots := 0, locals := 94 } : Room)).room s m ([.ref (μ 0), .ref (μ 1), .ref (μ 2), .ref (μ 3)] : List Value).toArray below meth c H7 locs 0 0 (MQ below (QI (bA 4 μ) (fun r h => tkn R = r ∧ LB D G μ (tk R) (pwv R) h)) ([.ref (μ 0), .ref (μ 1), .ref (μ 2), .ref (μ 3)] : List Value).toArray s 0 0 (bA 4 μ)) (F0 m 345 ls []) := by
              intro m7
              induction m7 with
              | zero =>
                intro i7 many Q7 H7 hi7 hQ7 hmn hL locs hS ls hl
                refine lv_iload hx hb dL_ticks_345 (lv_at hl 6 rfl) ?_
                refine lv_iconst (v := 3) hx hb dL_ticks_347 (by decide) ?_
                refine lv_icmp_ge (tgt := 391) hx hb dL_ticks_348 (by decide) (fun c4 => ?_) (fun c4 => absurd (nI_le (a := 3) (b := i7) (by omega) (by omega)) c4)
                refine lv_aload_n hx hb dL_ticks_391 rfl (lv_at hl 2 rfl) ?_
                refine lv_iconst (v := 5) hx hb dL_ticks_392 (by decide) ?_
                refine lv_dup2_11 hx hb dL_ticks_393 rfl rfl ?_
                refine dp_iald hx hb hK hL.2.2.1 0 rfl 5 rfl (by decide) (by decide) dL_ticks_394 ?_
                refine lv_iload hx hb dL_ticks_395 (lv_at hl 5 rfl) ?_
                refine lv_iadd hx hb dL_ticks_397 ?_
                refine dp_iast (A := bA 4 μ) hx hb hK hL.2.2.1 (⟨2, by decide, rfl⟩ : bA 4 μ (μ 2)) hS 0 rfl (5) rfl (by decide) (by decide) dL_ticks_398 (fun H6 locs hH6 hzH6 hkH6 hS => ?_)
                have hL : LB D G μ (upd Q7 5 ((Q7 5) + many)) (pwv R) H6 := hL.n hμ (by decide) hH6 hkH6
                refine lv_iload hx hb dL_ticks_399 (lv_at hl 5 rfl) ?_
                exact W.iret hx hb hr (fun t ht hW => ⟨⟨many, H6, rfl, ⟨by rw [hmn, show i7 = 3 by omega]; rfl, by rw [show tk R = upd Q7 5 (Q7 5 + many) by rw [hQ7, hmn, show i7 = 3 by omega, tk, trs_lo (by decide), tD_5]]; exact hL⟩, ht⟩, hS.F ht⟩) hS.2.2 dL_ticks_401
              | succ m7 ih345 =>
                intro i7 many Q7 H7 hi7 hQ7 hmn hL locs hS ls hl
                refine lv_iload hx hb dL_ticks_345 (lv_at hl 6 rfl) ?_
                refine lv_iconst (v := 3) hx hb dL_ticks_347 (by decide) ?_
                refine lv_icmp_ge (tgt := 391) hx hb dL_ticks_348 (by decide) (fun c5 => absurd c5 (nI_ge (a := i7) (b := 3) (by omega) (by omega))) (fun c5 => ?_)
                refine lv_iload hx hb dL_ticks_351 (lv_at hl 4 rfl) ?_
                refine lv_iload hx hb dL_ticks_353 (lv_at hl 6 rfl) ?_
                refine lv_ishr hx hb dL_ticks_355 ?_
                refine lv_iconst (v := 1) hx hb dL_ticks_356 (by decide) ?_
                refine lv_iand hx hb dL_ticks_357 ?_
                refine lv_iconst (v := 1) hx hb dL_ticks_358 (by decide) ?_
                refine lv_icmp_ne (tgt := 385) hx hb dL_ticks_359 (by decide) (fun c6 => ?_) (fun c6 => ?_)
                · refine lv_iinc (v := nI (i7 + 1)) (lv' := [(8, .int (nI (i7 + 1))), (0, .ref (μ 0)), (1, .ref (μ 1)), (2, .ref (μ 2)), (3, .ref (μ 3)), (5, .int tr), (7, .int many)]) hx hb dL_ticks_385 hl (k := 6) rfl (nI_1 i7) (by decide) rfl (fun ls hl => ?_)
                  refine lv_goto (tgt := 345) hx hb dL_ticks_388 (by decide) ?_
                  have ht : Q7 = tr1 Q7 i7 ∧ trc Q7 i7 = 0 := tr1_n (fun q => c6 (by rw [htr3]; exact (tbt_b (by omega)).mpr (by rw [← trc_T, ← hQ7]; exact q)))
                  exact ih345 (i7 + 1) many Q7 H7 (by omega) (by show _ = tr1 (trs (tD R) i7) i7; rw [← hQ7]; exact ht.1) (by show _ = trm (tD R) i7 + trc (trs (tD R) i7) i7; rw [← hQ7, ht.2, Int32.add_zero]; exact hmn) hL _ hS _ (lv_sub hl [1, 2, 3, 4, 5, 6, 0] rfl)
                refine lv_aload_n hx hb dL_ticks_362 rfl (lv_at hl 0 rfl) ?_
                refine lv_iload hx hb dL_ticks_363 (lv_at hl 6 rfl) ?_
                refine dp_Sv hF hK hN (c_L_opens l D G μ Q7 (pwv R) i7 _ hμ hL (by omega)) (va_cwS 2 hts gL_ticks_L_opens rfl rfl rfl (by decide +kernel) ⟨Nat.le_of_ble_eq_true rfl, Nat.le_of_ble_eq_true rfl⟩) hS (fun q hq => hq) [] rfl rfl hl.1 (Nat.le_of_ble_eq_true rfl) dL_ticks_365 ⟨Nat.le_of_ble_eq_true rfl, Nat.le_of_ble_eq_true rfl⟩ (fun H7 locs hp hzH7 hkH7 hS => ?_)
                replace hL := hp
                refine lv_aload_n hx hb dL_ticks_368 rfl (lv_at hl 0 rfl) ?_
                refine lv_bipush (v := 10) hx hb dL_ticks_369 (by decide) ?_
                refine lv_iload hx hb dL_ticks_371 (lv_at hl 6 rfl) ?_
                refine lv_imul hx hb dL_ticks_373 ?_
                rw [show (10 : Int32) * nI i7 = nI (10 * i7) from pk_mul 10 i7]
                refine lv_bipush (v := 9) hx hb dL_ticks_374 (by decide) ?_
                refine lv_iadd hx hb dL_ticks_376 ?_
                rw [show nI (10 * i7) + (9 : Int32) = nI (10 * i7 + 9) from nI_add (10 * i7) 9]
                refine lv_dup2_11 hx hb dL_ticks_377 rfl rfl ?_
                refine ld_d hx hb hK hL.1 i7 9 17 rfl (by omega) (by decide) rfl dL_ticks_378 ?_
                refine lv_iconst (v := 1) hx hb dL_ticks_379 (by decide) ?_
                refine lv_iadd hx hb dL_ticks_380 ?_
                refine dp_iast (A := bA 4 μ) hx hb hK hL.1 (⟨0, by decide, rfl⟩ : bA 4 μ (μ 0)) hS 0 rfl (10 * i7 + 9) rfl (by have := ((by omega) : i7 < 3); have := ((by decide) : 9 < 10); omega) (by decide) dL_ticks_381 (fun H8 locs hH8 hzH8 hkH8 hS => ?_)
                have hL : LB D G μ (upd (rst (upd Q7 (12 + 10 * i7) 0) i7) (17 + 10 * i7) (((rst (upd Q7 (12 + 10 * i7) 0) i7) (17 + 10 * i7)) + 1)) (pwv R) H8 := hL.d (w := 9) hμ (by omega) (by decide) rfl hH8 hkH8
                refine lv_iinc (v := many + 1) (lv' := [(7, .int (many + 1)), (0, .ref (μ 0)), (1, .ref (μ 1)), (2, .ref (μ 2)), (3, .ref (μ 3)), (5, .int tr), (8, .int (nI i7))]) hx hb dL_ticks_382 hl (k := 5) rfl rfl (by decide) rfl (fun ls hl => ?_)
                refine lv_iinc (v := nI (i7 + 1)) (lv' := [(8, .int (nI (i7 + 1))), (7, .int (many + 1)), (0, .ref (μ 0)), (1, .ref (μ 1)), (2, .ref (μ 2)), (3, .ref (μ 3)), (5, .int tr)]) hx hb dL_ticks_385 hl (k := 6) rfl (nI_1 i7) (by decide) rfl (fun ls hl => ?_)
                refine lv_goto (tgt := 345) hx hb dL_ticks_388 (by decide) ?_
                have ht : trc (trs (tD R) i7) i7 = 1 := trc_T.trans ((tbt_b (by omega)).mp (by rw [← htr3]; exact c6))
                rw [← hQ7] at ht
                have e17 : (rst (upd Q7 (12 + 10 * i7) 0) i7) (17 + 10 * i7) = Q7 (17 + 10 * i7) := by rw [rst_at (by omega), upd_ne (by omega)]
                rw [e17] at hL
                exact ih345 (i7 + 1) (many + 1) (trd Q7 i7) H8 (by omega) (by show _ = tr1 (trs (tD R) i7) i7; rw [← hQ7]; exact tr1_y ht) (by show _ = trm (tD R) i7 + trc (trs (tD R) i7) i7; rw [← hQ7, ht, hmn]) hL _ hS _ (lv_sub hl [2, 3, 4, 5, 6, 1, 0] rfl)
            exact loop345 3 0 0 (tD R) Hh rfl rfl rfl hL _ hS _ (lv_sub hl [2, 3, 4, 5, 6, 1, 0] rfl)
          obtain ⟨k2, hk2, rfl, hsk, hsd⟩ := ls_F hQ hla c3
          refine lv_aload_n hx hb dL_ticks_313 rfl (lv_at hl 1 rfl) ?_
          refine lv_iconst (v := 4) hx hb dL_ticks_314 (by decide) ?_
          refine lv_iload hx hb dL_ticks_315 (lv_at hl 5 rfl) ?_
          refine lv_iadd hx hb dL_ticks_317 ?_
          rw [show (4 : Int32) + nI k2 = nI (4 + k2) from nI_add 4 k2]
          refine lv_iconst (v := 0) hx hb dL_ticks_318 (by decide) ?_
          refine dp_iast (A := bA 4 μ) hx hb hK hL.2.1 (⟨1, by decide, rfl⟩ : bA 4 μ (μ 1)) hS 0 rfl (4 * 1 + k2) (congrArg nI (by omega)) (by have := (hk2 : k2 < 4); omega) (by decide) dL_ticks_319 (fun H9 locs hH9 hzH9 hkH9 hS => ?_)
          have hL : LB D G μ (upd Q9 (39 + 3 * k2) 0) (pwv R) H9 := hL.f (g := 1) hμ hk2 (by decide) rfl hH9 hkH9
          refine lv_aload_n hx hb dL_ticks_320 rfl (lv_at hl 1 rfl) ?_
          refine lv_bipush (v := 8) hx hb dL_ticks_321 (by decide) ?_
          refine lv_iload hx hb dL_ticks_323 (lv_at hl 5 rfl) ?_
          refine lv_iadd hx hb dL_ticks_325 ?_
          rw [show (8 : Int32) + nI k2 = nI (8 + k2) from nI_add 8 k2]
          refine lv_dup2_11 hx hb dL_ticks_326 rfl rfl ?_
          refine ld_f hx hb hK hL.2.1 k2 2 40 (congrArg nI (by omega)) hk2 (by decide) rfl dL_ticks_327 ?_
          refine lv_iconst (v := 1) hx hb dL_ticks_328 (by decide) ?_
          refine lv_iadd hx hb dL_ticks_329 ?_
          refine dp_iast (A := bA 4 μ) hx hb hK hL.2.1 (⟨1, by decide, rfl⟩ : bA 4 μ (μ 1)) hS 0 rfl (4 * 2 + k2) (congrArg nI (by omega)) (by have := (hk2 : k2 < 4); omega) (by decide) dL_ticks_330 (fun H10 locs hH10 hzH10 hkH10 hS => ?_)
          have hL : LB D G μ (upd (upd Q9 (39 + 3 * k2) 0) (40 + 3 * k2) (((upd Q9 (39 + 3 * k2) 0) (40 + 3 * k2)) + 1)) (pwv R) H10 := hL.f (g := 2) hμ hk2 (by decide) rfl hH10 hkH10
          refine lv_aload_n hx hb dL_ticks_331 rfl (lv_at hl 2 rfl) ?_
          refine lv_bipush (v := 6) hx hb dL_ticks_332 (by decide) ?_
          refine lv_dup2_11 hx hb dL_ticks_334 rfl rfl ?_
          refine dp_iald hx hb hK hL.2.2.1 0 rfl 6 rfl (by decide) (by decide) dL_ticks_335 ?_
          refine lv_iconst (v := 1) hx hb dL_ticks_336 (by decide) ?_
          refine lv_iadd hx hb dL_ticks_337 ?_
          refine dp_iast (A := bA 4 μ) hx hb hK hL.2.2.1 (⟨2, by decide, rfl⟩ : bA 4 μ (μ 2)) hS 0 rfl (6) rfl (by decide) (by decide) dL_ticks_338 (fun H11 locs hH11 hzH11 hkH11 hS => ?_)
          have hL : LB D G μ (upd (upd (upd Q9 (39 + 3 * k2) 0) (40 + 3 * k2) (((upd Q9 (39 + 3 * k2) 0) (40 + 3 * k2)) + 1)) 6 (((upd (upd Q9 (39 + 3 * k2) 0) (40 + 3 * k2) (((upd Q9 (39 + 3 * k2) 0) (40 + 3 * k2)) + 1)) 6) + 1)) (pwv R) H11 := hL.n hμ (by decide) hH11 hkH11
          rw [sh_x hsk, hsd] at hL
          refine lv_iconst (v := 0) hx hb dL_ticks_339 (by decide) ?_
          refine lv_istore (lv' := [(7, .int 0), (0, .ref (μ 0)), (1, .ref (μ 1)), (2, .ref (μ 2)), (3, .ref (μ 3)), (5, .int tr), (6, .int (nI k2))]) hx hb dL_ticks_340 hl (by decide) rfl (fun ls hl => ?_)
          refine lv_iconst (v := 0) hx hb dL_ticks_342 (by decide) ?_
          refine lv_istore (lv' := [(8, .int 0), (7, .int 0), (0, .ref (μ 0)), (1, .ref (μ 1)), (2, .ref (μ 2)), (3, .ref (μ 3)), (5, .int tr), (6, .int (nI k2))]) hx hb dL_ticks_343 hl (by decide) rfl (fun ls hl => ?_)
          have htr3 : tr = tbt R 3 := htr
          have loop345 : ∀ (m7 : Nat) (i7 : Nat) (many : Int32) (Q7 : Nat → Int32) (H7 : Heap) (_ : i7 + m7 = 3) (_ : Q7 = trs (tD R) i7) (_ : many = trm (tD R) i7) (_ : LB D G μ Q7 (pwv R) H7) (locs : List Loc) (_ : va_S (bA 4 μ) s.heap H7 locs) (ls : Array Slot) (_ : lv_has ls 9 [(0, .ref (μ 0)), (1, .ref (μ 1)), (2, .ref (μ 2)), (3, .ref (μ 3)), (5, .int tr), (7, .int many), (8, .int (nI i7))]), W p l e (headSpec wsL_ticks ({ frames := 4, cells := 0, slots := 0, locals := 94 } : Room)).room s m ([.ref (μ 0), .ref (μ 1), .ref (μ 2), .ref (μ 3)] : List Value).toArray below meth c H7 locs 0 0 (MQ below (QI (bA 4 μ) (fun r h => tkn R = r ∧ LB D G μ (tk R) (pwv R) h)) ([.ref (μ 0), .ref (μ 1), .ref (μ 2), .ref (μ 3)] : List Value).toArray s 0 0 (bA 4 μ)) (F0 m 345 ls []) := by
            intro m7
            induction m7 with
            | zero =>
              intro i7 many Q7 H7 hi7 hQ7 hmn hL locs hS ls hl
              refine lv_iload hx hb dL_ticks_345 (lv_at hl 6 rfl) ?_
              refine lv_iconst (v := 3) hx hb dL_ticks_347 (by decide) ?_
              refine lv_icmp_ge (tgt := 391) hx hb dL_ticks_348 (by decide) (fun c7 => ?_) (fun c7 => absurd (nI_le (a := 3) (b := i7) (by omega) (by omega)) c7)
              refine lv_aload_n hx hb dL_ticks_391 rfl (lv_at hl 2 rfl) ?_
              refine lv_iconst (v := 5) hx hb dL_ticks_392 (by decide) ?_
              refine lv_dup2_11 hx hb dL_ticks_393 rfl rfl ?_
              refine dp_iald hx hb hK hL.2.2.1 0 rfl 5 rfl (by decide) (by decide) dL_ticks_394 ?_
              refine lv_iload hx hb dL_ticks_395 (lv_at hl 5 rfl) ?_
              refine lv_iadd hx hb dL_ticks_397 ?_
              refine dp_iast (A := bA 4 μ) hx hb hK hL.2.2.1 (⟨2, by decide, rfl⟩ : bA 4 μ (μ 2)) hS 0 rfl (5) rfl (by decide) (by decide) dL_ticks_398 (fun H12 locs hH12 hzH12 hkH12 hS => ?_)
              have hL : LB D G μ (upd Q7 5 ((Q7 5) + many)) (pwv R) H12 := hL.n hμ (by decide) hH12 hkH12
              refine lv_iload hx hb dL_ticks_399 (lv_at hl 5 rfl) ?_
              exact W.iret hx hb hr (fun t ht hW => ⟨⟨many, H12, rfl, ⟨by rw [hmn, show i7 = 3 by omega]; rfl, by rw [show tk R = upd Q7 5 (Q7 5 + many) by rw [hQ7, hmn, show i7 = 3 by omega, tk, trs_lo (by decide), tD_5]]; exact hL⟩, ht⟩, hS.F ht⟩) hS.2.2 dL_ticks_401
            | succ m7 ih345 =>
              intro i7 many Q7 H7 hi7 hQ7 hmn hL locs hS ls hl
              refine lv_iload hx hb dL_ticks_345 (lv_at hl 6 rfl) ?_
              refine lv_iconst (v := 3) hx hb dL_ticks_347 (by decide) ?_
              refine lv_icmp_ge (tgt := 391) hx hb dL_ticks_348 (by decide) (fun c8 => absurd c8 (nI_ge (a := i7) (b := 3) (by omega) (by omega))) (fun c8 => ?_)
              refine lv_iload hx hb dL_ticks_351 (lv_at hl 4 rfl) ?_
              refine lv_iload hx hb dL_ticks_353 (lv_at hl 6 rfl) ?_
              refine lv_ishr hx hb dL_ticks_355 ?_
              refine lv_iconst (v := 1) hx hb dL_ticks_356 (by decide) ?_
              refine lv_iand hx hb dL_ticks_357 ?_
              refine lv_iconst (v := 1) hx hb dL_ticks_358 (by decide) ?_
              refine lv_icmp_ne (tgt := 385) hx hb dL_ticks_359 (by decide) (fun c9 => ?_) (fun c9 => ?_)
              · refine lv_iinc (v := nI (i7 + 1)) (lv' := [(8, .int (nI (i7 + 1))), (0, .ref (μ 0)), (1, .ref (μ 1)), (2, .ref (μ 2)), (3, .ref (μ 3)), (5, .int tr), (7, .int many)]) hx hb dL_ticks_385 hl (k := 6) rfl (nI_1 i7) (by decide) rfl (fun ls hl => ?_)
                refine lv_goto (tgt := 345) hx hb dL_ticks_388 (by decide) ?_
                have ht : Q7 = tr1 Q7 i7 ∧ trc Q7 i7 = 0 := tr1_n (fun q => c9 (by rw [htr3]; exact (tbt_b (by omega)).mpr (by rw [← trc_T, ← hQ7]; exact q)))
                exact ih345 (i7 + 1) many Q7 H7 (by omega) (by show _ = tr1 (trs (tD R) i7) i7; rw [← hQ7]; exact ht.1) (by show _ = trm (tD R) i7 + trc (trs (tD R) i7) i7; rw [← hQ7, ht.2, Int32.add_zero]; exact hmn) hL _ hS _ (lv_sub hl [1, 2, 3, 4, 5, 6, 0] rfl)
              refine lv_aload_n hx hb dL_ticks_362 rfl (lv_at hl 0 rfl) ?_
              refine lv_iload hx hb dL_ticks_363 (lv_at hl 6 rfl) ?_
              refine dp_Sv hF hK hN (c_L_opens l D G μ Q7 (pwv R) i7 _ hμ hL (by omega)) (va_cwS 2 hts gL_ticks_L_opens rfl rfl rfl (by decide +kernel) ⟨Nat.le_of_ble_eq_true rfl, Nat.le_of_ble_eq_true rfl⟩) hS (fun q hq => hq) [] rfl rfl hl.1 (Nat.le_of_ble_eq_true rfl) dL_ticks_365 ⟨Nat.le_of_ble_eq_true rfl, Nat.le_of_ble_eq_true rfl⟩ (fun H13 locs hp hzH13 hkH13 hS => ?_)
              replace hL := hp
              refine lv_aload_n hx hb dL_ticks_368 rfl (lv_at hl 0 rfl) ?_
              refine lv_bipush (v := 10) hx hb dL_ticks_369 (by decide) ?_
              refine lv_iload hx hb dL_ticks_371 (lv_at hl 6 rfl) ?_
              refine lv_imul hx hb dL_ticks_373 ?_
              rw [show (10 : Int32) * nI i7 = nI (10 * i7) from pk_mul 10 i7]
              refine lv_bipush (v := 9) hx hb dL_ticks_374 (by decide) ?_
              refine lv_iadd hx hb dL_ticks_376 ?_
              rw [show nI (10 * i7) + (9 : Int32) = nI (10 * i7 + 9) from nI_add (10 * i7) 9]
              refine lv_dup2_11 hx hb dL_ticks_377 rfl rfl ?_
              refine ld_d hx hb hK hL.1 i7 9 17 rfl (by omega) (by decide) rfl dL_ticks_378 ?_
              refine lv_iconst (v := 1) hx hb dL_ticks_379 (by decide) ?_
              refine lv_iadd hx hb dL_ticks_380 ?_
              refine dp_iast (A := bA 4 μ) hx hb hK hL.1 (⟨0, by decide, rfl⟩ : bA 4 μ (μ 0)) hS 0 rfl (10 * i7 + 9) rfl (by have := ((by omega) : i7 < 3); have := ((by decide) : 9 < 10); omega) (by decide) dL_ticks_381 (fun H14 locs hH14 hzH14 hkH14 hS => ?_)
              have hL : LB D G μ (upd (rst (upd Q7 (12 + 10 * i7) 0) i7) (17 + 10 * i7) (((rst (upd Q7 (12 + 10 * i7) 0) i7) (17 + 10 * i7)) + 1)) (pwv R) H14 := hL.d (w := 9) hμ (by omega) (by decide) rfl hH14 hkH14
              refine lv_iinc (v := many + 1) (lv' := [(7, .int (many + 1)), (0, .ref (μ 0)), (1, .ref (μ 1)), (2, .ref (μ 2)), (3, .ref (μ 3)), (5, .int tr), (8, .int (nI i7))]) hx hb dL_ticks_382 hl (k := 5) rfl rfl (by decide) rfl (fun ls hl => ?_)
              refine lv_iinc (v := nI (i7 + 1)) (lv' := [(8, .int (nI (i7 + 1))), (7, .int (many + 1)), (0, .ref (μ 0)), (1, .ref (μ 1)), (2, .ref (μ 2)), (3, .ref (μ 3)), (5, .int tr)]) hx hb dL_ticks_385 hl (k := 6) rfl (nI_1 i7) (by decide) rfl (fun ls hl => ?_)
              refine lv_goto (tgt := 345) hx hb dL_ticks_388 (by decide) ?_
              have ht : trc (trs (tD R) i7) i7 = 1 := trc_T.trans ((tbt_b (by omega)).mp (by rw [← htr3]; exact c9))
              rw [← hQ7] at ht
              have e17 : (rst (upd Q7 (12 + 10 * i7) 0) i7) (17 + 10 * i7) = Q7 (17 + 10 * i7) := by rw [rst_at (by omega), upd_ne (by omega)]
              rw [e17] at hL
              exact ih345 (i7 + 1) (many + 1) (trd Q7 i7) H14 (by omega) (by show _ = tr1 (trs (tD R) i7) i7; rw [← hQ7]; exact tr1_y ht) (by show _ = trm (tD R) i7 + trc (trs (tD R) i7) i7; rw [← hQ7, ht, hmn]) hL _ hS _ (lv_sub hl [2, 3, 4, 5, 6, 1, 0] rfl)
          exact loop345 3 0 0 (tD R) H11 rfl rfl rfl hL _ hS _ (lv_sub hl [2, 3, 4, 5, 6, 1, 0] rfl)
        | succ m8 ih264 =>
          intro k la9 hk8 hla locs hS ls hl
          refine lv_iload hx hb dL_ticks_264 (lv_at hl 6 rfl) ?_
          refine lv_iconst (v := 4) hx hb dL_ticks_266 (by decide) ?_
          refine lv_icmp_ge (tgt := 308) hx hb dL_ticks_267 (by decide) (fun c10 => absurd c10 (nI_ge (a := k) (b := 4) (by omega) (by omega))) (fun c10 => ?_)
          refine lv_aload_n hx hb dL_ticks_270 rfl (lv_at hl 3 rfl) ?_
          refine lv_iconst (v := 3) hx hb dL_ticks_271 (by decide) ?_
          refine dp_iald hx hb hK hL.2.2.2 0 rfl 3 rfl (by decide) (by decide) dL_ticks_272 ?_
          refine lv_if_le (tgt := 298) hx hb dL_ticks_273 (by decide) (fun c11 => ?_) (fun c11 => ?_)
          · refine lv_iload hx hb dL_ticks_298 (lv_at hl 5 rfl) ?_
            refine lv_istore (lv' := [(6, .int la9), (0, .ref (μ 0)), (1, .ref (μ 1)), (2, .ref (μ 2)), (3, .ref (μ 3)), (5, .int tr), (7, .int (nI k))]) hx hb dL_ticks_300 hl (by decide) rfl (fun ls hl => ?_)
            refine lv_iinc (v := nI (k + 1)) (lv' := [(7, .int (nI (k + 1))), (6, .int la9), (0, .ref (μ 0)), (1, .ref (μ 1)), (2, .ref (μ 2)), (3, .ref (μ 3)), (5, .int tr)]) hx hb dL_ticks_302 hl (k := 6) rfl (nI_1 k) (by decide) rfl (fun ls hl => ?_)
            refine lv_goto (tgt := 264) hx hb dL_ticks_305 (by decide) ?_
            exact ih264 (k + 1) la9 (by omega) (by rw [if_pos (show lk R (fq R) ≤ 0 from c11)] at hla ⊢; exact hla) _ hS _ (lv_sub hl [2, 3, 4, 5, 6, 1, 0] rfl)
          refine lv_aload_n hx hb dL_ticks_276 rfl (lv_at hl 1 rfl) ?_
          refine lv_iload hx hb dL_ticks_277 (lv_at hl 6 rfl) ?_
          refine ld_f hx hb hK hL.2.1 k 0 38 (congrArg nI (by omega)) (by omega) (by decide) rfl dL_ticks_279 ?_
          refine lv_if_le (tgt := 298) hx hb dL_ticks_280 (by decide) (fun c12 => ?_) (fun c12 => ?_)
          · refine lv_iload hx hb dL_ticks_298 (lv_at hl 5 rfl) ?_
            refine lv_istore (lv' := [(6, .int la9), (0, .ref (μ 0)), (1, .ref (μ 1)), (2, .ref (μ 2)), (3, .ref (μ 3)), (5, .int tr), (7, .int (nI k))]) hx hb dL_ticks_300 hl (by decide) rfl (fun ls hl => ?_)
            refine lv_iinc (v := nI (k + 1)) (lv' := [(7, .int (nI (k + 1))), (6, .int la9), (0, .ref (μ 0)), (1, .ref (μ 1)), (2, .ref (μ 2)), (3, .ref (μ 3)), (5, .int tr)]) hx hb dL_ticks_302 hl (k := 6) rfl (nI_1 k) (by decide) rfl (fun ls hl => ?_)
            refine lv_goto (tgt := 264) hx hb dL_ticks_305 (by decide) ?_
            exact ih264 (k + 1) la9 (by omega) (by rw [if_neg (show ¬ lk R (fq R) ≤ 0 from c11)] at hla ⊢; rw [shk_n2 c12]; exact hla) _ hS _ (lv_sub hl [2, 3, 4, 5, 6, 1, 0] rfl)
          refine lv_aload_n hx hb dL_ticks_283 rfl (lv_at hl 1 rfl) ?_
          refine lv_iconst (v := 4) hx hb dL_ticks_284 (by decide) ?_
          refine lv_iload hx hb dL_ticks_285 (lv_at hl 6 rfl) ?_
          refine lv_iadd hx hb dL_ticks_287 ?_
          rw [show (4 : Int32) + nI k = nI (4 + k) from nI_add 4 k]
          refine ld_f hx hb hK hL.2.1 k 1 39 (congrArg nI (by omega)) (by omega) (by decide) rfl dL_ticks_288 ?_
          refine lv_iconst (v := 1) hx hb dL_ticks_289 (by decide) ?_
          refine lv_icmp_ne (tgt := 298) hx hb dL_ticks_290 (by decide) (fun c13 => ?_) (fun c13 => ?_)
          · refine lv_iload hx hb dL_ticks_298 (lv_at hl 5 rfl) ?_
            refine lv_istore (lv' := [(6, .int la9), (0, .ref (μ 0)), (1, .ref (μ 1)), (2, .ref (μ 2)), (3, .ref (μ 3)), (5, .int tr), (7, .int (nI k))]) hx hb dL_ticks_300 hl (by decide) rfl (fun ls hl => ?_)
            refine lv_iinc (v := nI (k + 1)) (lv' := [(7, .int (nI (k + 1))), (6, .int la9), (0, .ref (μ 0)), (1, .ref (μ 1)), (2, .ref (μ 2)), (3, .ref (μ 3)), (5, .int tr)]) hx hb dL_ticks_302 hl (k := 6) rfl (nI_1 k) (by decide) rfl (fun ls hl => ?_)
            refine lv_goto (tgt := 264) hx hb dL_ticks_305 (by decide) ?_
            exact ih264 (k + 1) la9 (by omega) (by rw [if_neg (show ¬ lk R (fq R) ≤ 0 from c11)] at hla ⊢; rw [shk_n1 (gd_bz hgq) (by omega) c13]; exact hla) _ hS _ (lv_sub hl [2, 3, 4, 5, 6, 1, 0] rfl)
          refine lv_iload hx hb dL_ticks_293 (lv_at hl 6 rfl) ?_
          refine lv_goto (tgt := 300) hx hb dL_ticks_295 (by decide) ?_
          refine lv_istore (lv' := [(6, .int (nI k)), (0, .ref (μ 0)), (1, .ref (μ 1)), (2, .ref (μ 2)), (3, .ref (μ 3)), (5, .int tr), (7, .int (nI k))]) hx hb dL_ticks_300 hl (by decide) rfl (fun ls hl => ?_)
          refine lv_iinc (v := nI (k + 1)) (lv' := [(7, .int (nI (k + 1))), (6, .int (nI k)), (0, .ref (μ 0)), (1, .ref (μ 1)), (2, .ref (μ 2)), (3, .ref (μ 3)), (5, .int tr)]) hx hb dL_ticks_302 hl (k := 6) rfl (nI_1 k) (by decide) rfl (fun ls hl => ?_)
          refine lv_goto (tgt := 264) hx hb dL_ticks_305 (by decide) ?_
          exact ih264 (k + 1) (nI k) (by omega) (by rw [if_neg (show ¬ lk R (fq R) ≤ 0 from c11), shk_y c13 c12]; exact nI_1 k) _ hS _ (lv_sub hl [2, 3, 4, 5, 6, 1, 0] rfl)
      exact loop264 4 0 ((-1)) rfl (by show (-1 : Int32) + 1 = nI (if _ then 0 else 0); rw [ite_self]; decide) _ hS _ (lv_sub hl [2, 3, 4, 5, 7, 1, 0] rfl)
    | succ m9 ih42 =>
      intro i tr Q9 Hh hin hQ htr hL locs hS ls hl
      have hgq := gd_tbq hg (by omega) hQ
      refine lv_iload hx hb dL_ticks_42 (lv_at hl 6 rfl) ?_
      refine lv_iconst (v := 3) hx hb dL_ticks_44 (by decide) ?_
      refine lv_icmp_ge (tgt := 258) hx hb dL_ticks_45 (by decide) (fun c14 => absurd c14 (nI_ge (a := i) (b := 3) (by omega) (by omega))) (fun c14 => ?_)
      refine lv_bipush (v := 10) hx hb dL_ticks_48 (by decide) ?_
      refine lv_iload hx hb dL_ticks_50 (lv_at hl 6 rfl) ?_
      refine lv_imul hx hb dL_ticks_52 ?_
      rw [show (10 : Int32) * nI i = nI (10 * i) from pk_mul 10 i]
      refine lv_istore (lv' := [(7, .int (nI (10 * i))), (0, .ref (μ 0)), (1, .ref (μ 1)), (2, .ref (μ 2)), (3, .ref (μ 3)), (4, .int (fq R)), (5, .int tr), (6, .int (nI i))]) hx hb dL_ticks_53 hl (by decide) rfl (fun ls hl => ?_)
      refine lv_aload_n hx hb dL_ticks_55 rfl (lv_at hl 1 rfl) ?_
      refine lv_iload hx hb dL_ticks_56 (lv_at hl 0 rfl) ?_
      refine lv_bipush (v := 8) hx hb dL_ticks_58 (by decide) ?_
      refine lv_iadd hx hb dL_ticks_60 ?_
      rw [show nI (10 * i) + (8 : Int32) = nI (10 * i + 8) from nI_add (10 * i) 8]
      refine lv_dup2_11 hx hb dL_ticks_61 rfl rfl ?_
      refine ld_d hx hb hK hL.1 i 8 16 rfl (by omega) (by decide) rfl dL_ticks_62 ?_
      refine lv_aload_n hx hb dL_ticks_63 rfl (lv_at hl 4 rfl) ?_
      refine lv_iload hx hb dL_ticks_64 (lv_at hl 7 rfl) ?_
      refine dp_iald hx hb hK hL.2.2.2 0 rfl i rfl (by omega) (by decide) dL_ticks_66 ?_
      refine lv_iadd hx hb dL_ticks_67 ?_
      refine dp_iast (A := bA 4 μ) hx hb hK hL.1 (⟨0, by decide, rfl⟩ : bA 4 μ (μ 0)) hS 0 rfl (10 * i + 8) rfl (by have := ((by omega) : i < 3); have := ((by decide) : 8 < 10); omega) (by decide) dL_ticks_68 (fun H15 locs hH15 hzH15 hkH15 hS => ?_)
      have hL : LB D G μ (upd Q9 (16 + 10 * i) ((Q9 (16 + 10 * i)) + ((pwv R) i))) (pwv R) H15 := hL.d (w := 8) hμ (by omega) (by decide) rfl hH15 hkH15
      obtain ⟨Q11, hQ11⟩ : ∃ Q11, Q11 = upd Q9 (16 + 10 * i) ((Q9 (16 + 10 * i)) + ((pwv R) i)) := ⟨_, rfl⟩
      rw [← hQ11] at hL
      refine lv_aload_n hx hb dL_ticks_69 rfl (lv_at hl 1 rfl) ?_
      refine lv_iload hx hb dL_ticks_70 (lv_at hl 0 rfl) ?_
      refine lv_iconst (v := 4) hx hb dL_ticks_72 (by decide) ?_
      refine lv_iadd hx hb dL_ticks_73 ?_
      rw [show nI (10 * i) + (4 : Int32) = nI (10 * i + 4) from nI_add (10 * i) 4]
      refine ld_d hx hb hK hL.1 i 4 12 rfl (by omega) (by decide) rfl dL_ticks_74 ?_
      refine lv_iconst (v := 1) hx hb dL_ticks_75 (by decide) ?_
      refine lv_icmp_ne (tgt := 207) hx hb dL_ticks_76 (by decide) (fun c15 => ?_) (fun c15 => ?_)
      · refine lv_aload_n hx hb dL_ticks_207 rfl (lv_at hl 1 rfl) ?_
        refine lv_iload hx hb dL_ticks_208 (lv_at hl 0 rfl) ?_
        refine lv_iconst (v := 3) hx hb dL_ticks_210 (by decide) ?_
        refine lv_iadd hx hb dL_ticks_211 ?_
        rw [show nI (10 * i) + (3 : Int32) = nI (10 * i + 3) from nI_add (10 * i) 3]
        refine ld_d hx hb hK hL.1 i 3 11 rfl (by omega) (by decide) rfl dL_ticks_212 ?_
        refine lv_iconst (v := 1) hx hb dL_ticks_213 (by decide) ?_
        refine lv_icmp_ne (tgt := 252) hx hb dL_ticks_214 (by decide) (fun c16 => ?_) (fun c16 => ?_)
        · refine lv_iinc (v := nI (i + 1)) (lv' := [(6, .int (nI (i + 1))), (7, .int (nI (10 * i))), (0, .ref (μ 0)), (1, .ref (μ 1)), (2, .ref (μ 2)), (3, .ref (μ 3)), (4, .int (fq R)), (5, .int tr)]) hx hb dL_ticks_252 hl (k := 7) rfl (nI_1 i) (by decide) rfl (fun ls hl => ?_)
          refine lv_goto (tgt := 42) hx hb dL_ticks_255 (by decide) ?_
          have hd := dtk_ln hgq (by omega) hQ11 c15 (Or.inl c16)
          have hn := dtk_next hQ hd
          have h0 : trc (tD R) i = 0 := (trc_D (by omega) hn).trans (trc_o (gd_tbq hg (by omega) hn) (by omega) (by rw [hd, dtk_ak (by omega)]; exact (((gd_bz hgq).1 i (by omega)).2.resolve_right (fun q => c15 (by rw [hQ11, upd_ne (by omega)]; exact q)))))
          exact ih42 (i + 1) tr Q11 H15 (by omega) hn (by rw [htr, tbt_n h0, Int32.or_zero]) hL _ hS _ (lv_sub hl [2, 3, 4, 5, 6, 7, 0] rfl)
        refine lv_iload hx hb dL_ticks_217 (lv_at hl 5 rfl) ?_
        refine lv_if_le (tgt := 252) hx hb dL_ticks_219 (by decide) (fun c17 => ?_) (fun c17 => ?_)
        · refine lv_iinc (v := nI (i + 1)) (lv' := [(6, .int (nI (i + 1))), (7, .int (nI (10 * i))), (0, .ref (μ 0)), (1, .ref (μ 1)), (2, .ref (μ 2)), (3, .ref (μ 3)), (4, .int (fq R)), (5, .int tr)]) hx hb dL_ticks_252 hl (k := 7) rfl (nI_1 i) (by decide) rfl (fun ls hl => ?_)
          refine lv_goto (tgt := 42) hx hb dL_ticks_255 (by decide) ?_
          have hd := dtk_ln hgq (by omega) hQ11 c15 (Or.inr c17)
          have hn := dtk_next hQ hd
          have h0 : trc (tD R) i = 0 := (trc_D (by omega) hn).trans (trc_o (gd_tbq hg (by omega) hn) (by omega) (by rw [hd, dtk_ak (by omega)]; exact (((gd_bz hgq).1 i (by omega)).2.resolve_right (fun q => c15 (by rw [hQ11, upd_ne (by omega)]; exact q)))))
          exact ih42 (i + 1) tr Q11 H15 (by omega) hn (by rw [htr, tbt_n h0, Int32.or_zero]) hL _ hS _ (lv_sub hl [2, 3, 4, 5, 6, 7, 0] rfl)
        refine lv_aload_n hx hb dL_ticks_222 rfl (lv_at hl 1 rfl) ?_
        refine lv_iload hx hb dL_ticks_223 (lv_at hl 0 rfl) ?_
        refine lv_iconst (v := 5) hx hb dL_ticks_225 (by decide) ?_
        refine lv_iadd hx hb dL_ticks_226 ?_
        rw [show nI (10 * i) + (5 : Int32) = nI (10 * i + 5) from nI_add (10 * i) 5]
        refine lv_aload_n hx hb dL_ticks_227 rfl (lv_at hl 1 rfl) ?_
        refine lv_iload hx hb dL_ticks_228 (lv_at hl 0 rfl) ?_
        refine lv_iconst (v := 5) hx hb dL_ticks_230 (by decide) ?_
        refine lv_iadd hx hb dL_ticks_231 ?_
        rw [show nI (10 * i) + (5 : Int32) = nI (10 * i + 5) from nI_add (10 * i) 5]
        refine ld_d hx hb hK hL.1 i 5 13 rfl (by omega) (by decide) rfl dL_ticks_232 ?_
        refine lv_aload_n hx hb dL_ticks_233 rfl (lv_at hl 1 rfl) ?_
        refine lv_iload hx hb dL_ticks_234 (lv_at hl 0 rfl) ?_
        refine lv_iconst (v := 2) hx hb dL_ticks_236 (by decide) ?_
        refine lv_iadd hx hb dL_ticks_237 ?_
        rw [show nI (10 * i) + (2 : Int32) = nI (10 * i + 2) from nI_add (10 * i) 2]
        refine ld_d hx hb hK hL.1 i 2 10 rfl (by omega) (by decide) rfl dL_ticks_238 ?_
        refine lv_iadd hx hb dL_ticks_239 ?_
        refine lv_iload hx hb dL_ticks_240 (lv_at hl 5 rfl) ?_
        refine lv_isub hx hb dL_ticks_242 ?_
        refine lv_sipush (v := 1000) hx hb dL_ticks_243 (by decide) ?_
        refine lv_iadd hx hb dL_ticks_246 ?_
        refine lv_sipush (v := 1000) hx hb dL_ticks_247 (by decide) ?_
        refine lv_irem hx hb dL_ticks_250 (by decide) ?_
        refine dp_iast (A := bA 4 μ) hx hb hK hL.1 (⟨0, by decide, rfl⟩ : bA 4 μ (μ 0)) hS 0 rfl (10 * i + 5) rfl (by have := ((by omega) : i < 3); have := ((by decide) : 5 < 10); omega) (by decide) dL_ticks_251 (fun H16 locs hH16 hzH16 hkH16 hS => ?_)
        have hL : LB D G μ (upd Q11 (13 + 10 * i) (((((Q11 (13 + 10 * i)) + (Q11 (10 + 10 * i))) - (fq R)) + 1000) - ((((Q11 (13 + 10 * i)) + (Q11 (10 + 10 * i))) - (fq R)) + 1000) / 1000 * 1000)) (pwv R) H16 := hL.d (w := 5) hμ (by omega) (by decide) rfl hH16 hkH16
        obtain ⟨Q12, hQ12⟩ : ∃ Q12, Q12 = upd Q11 (13 + 10 * i) (((((Q11 (13 + 10 * i)) + (Q11 (10 + 10 * i))) - (fq R)) + 1000) - ((((Q11 (13 + 10 * i)) + (Q11 (10 + 10 * i))) - (fq R)) + 1000) / 1000 * 1000) := ⟨_, rfl⟩
        rw [← hQ12] at hL
        refine lv_iinc (v := nI (i + 1)) (lv' := [(6, .int (nI (i + 1))), (7, .int (nI (10 * i))), (0, .ref (μ 0)), (1, .ref (μ 1)), (2, .ref (μ 2)), (3, .ref (μ 3)), (4, .int (fq R)), (5, .int tr)]) hx hb dL_ticks_252 hl (k := 7) rfl (nI_1 i) (by decide) rfl (fun ls hl => ?_)
        refine lv_goto (tgt := 42) hx hb dL_ticks_255 (by decide) ?_
        have hd := dtk_lp hgq (by omega) hQ11 hQ12 c15 c16 c17 (ph_l hg (by omega) hQ hph c17 hQ11)
        have hn := dtk_next hQ hd
        have h0 : trc (tD R) i = 0 := (trc_D (by omega) hn).trans (trc_o (gd_tbq hg (by omega) hn) (by omega) (by rw [hd, dtk_ak (by omega)]; exact (((gd_bz hgq).1 i (by omega)).2.resolve_right (fun q => c15 (by rw [hQ11, upd_ne (by omega)]; exact q)))))
        exact ih42 (i + 1) tr Q12 H16 (by omega) hn (by rw [htr, tbt_n h0, Int32.or_zero]) hL _ hS _ (lv_sub hl [2, 3, 4, 5, 6, 7, 0] rfl)
      refine lv_aload_n hx hb dL_ticks_79 rfl (lv_at hl 1 rfl) ?_
      refine lv_iload hx hb dL_ticks_80 (lv_at hl 0 rfl) ?_
      refine lv_bipush (v := 6) hx hb dL_ticks_82 (by decide) ?_
      refine lv_iadd hx hb dL_ticks_84 ?_
      rw [show nI (10 * i) + (6 : Int32) = nI (10 * i + 6) from nI_add (10 * i) 6]
      refine lv_aload_n hx hb dL_ticks_85 rfl (lv_at hl 4 rfl) ?_
      refine lv_iload hx hb dL_ticks_86 (lv_at hl 7 rfl) ?_
      refine dp_iald hx hb hK hL.2.2.2 0 rfl i rfl (by omega) (by decide) dL_ticks_88 ?_
      refine lv_aload_n hx hb dL_ticks_89 rfl (lv_at hl 1 rfl) ?_
      refine lv_iload hx hb dL_ticks_90 (lv_at hl 0 rfl) ?_
      refine ld_d hx hb hK hL.1 i 0 8 rfl (by omega) (by decide) rfl dL_ticks_92 ?_
      refine lv_aload_n hx hb dL_ticks_93 rfl (lv_at hl 1 rfl) ?_
      refine lv_iload hx hb dL_ticks_94 (lv_at hl 0 rfl) ?_
      refine ld_d hx hb hK hL.1 i 0 8 rfl (by omega) (by decide) rfl dL_ticks_96 ?_
      refine lv_bipush (v := 10) hx hb dL_ticks_97 (by decide) ?_
      refine lv_idiv hx hb dL_ticks_99 (by decide) ?_
      refine lv_iadd hx hb dL_ticks_100 ?_
      refine lv_icmp_le (tgt := 116) hx hb dL_ticks_101 (by decide) (fun c18 => ?_) (fun c18 => ?_)
      · refine lv_iconst (v := 0) hx hb dL_ticks_116 (by decide) ?_
        refine dp_iast (A := bA 4 μ) hx hb hK hL.1 (⟨0, by decide, rfl⟩ : bA 4 μ (μ 0)) hS 0 rfl (10 * i + 6) rfl (by have := ((by omega) : i < 3); have := ((by decide) : 6 < 10); omega) (by decide) dL_ticks_117 (fun H17 locs hH17 hzH17 hkH17 hS => ?_)
        have hL : LB D G μ (upd Q11 (14 + 10 * i) 0) (pwv R) H17 := hL.d (w := 6) hμ (by omega) (by decide) rfl hH17 hkH17
        obtain ⟨Q12, hQ12⟩ : ∃ Q12, Q12 = upd Q11 (14 + 10 * i) 0 := ⟨_, rfl⟩
        rw [← hQ12] at hL
        refine lv_aload_n hx hb dL_ticks_118 rfl (lv_at hl 1 rfl) ?_
        refine lv_iload hx hb dL_ticks_119 (lv_at hl 0 rfl) ?_
        refine lv_bipush (v := 7) hx hb dL_ticks_121 (by decide) ?_
        refine lv_iadd hx hb dL_ticks_123 ?_
        rw [show nI (10 * i) + (7 : Int32) = nI (10 * i + 7) from nI_add (10 * i) 7]
        refine lv_aload_n hx hb dL_ticks_124 rfl (lv_at hl 4 rfl) ?_
        refine lv_iload hx hb dL_ticks_125 (lv_at hl 7 rfl) ?_
        refine dp_iald hx hb hK hL.2.2.2 0 rfl i rfl (by omega) (by decide) dL_ticks_127 ?_
        refine lv_aload_n hx hb dL_ticks_128 rfl (lv_at hl 1 rfl) ?_
        refine lv_iload hx hb dL_ticks_129 (lv_at hl 0 rfl) ?_
        refine ld_d hx hb hK hL.1 i 0 8 rfl (by omega) (by decide) rfl dL_ticks_131 ?_
        refine lv_bipush (v := 20) hx hb dL_ticks_132 (by decide) ?_
        refine lv_idiv hx hb dL_ticks_134 (by decide) ?_
        refine lv_iadd hx hb dL_ticks_135 ?_
        refine lv_if_ge (tgt := 151) hx hb dL_ticks_136 (by decide) (fun c19 => ?_) (fun c19 => ?_)
        · refine lv_iconst (v := 0) hx hb dL_ticks_151 (by decide) ?_
          refine dp_iast (A := bA 4 μ) hx hb hK hL.1 (⟨0, by decide, rfl⟩ : bA 4 μ (μ 0)) hS 0 rfl (10 * i + 7) rfl (by have := ((by omega) : i < 3); have := ((by decide) : 7 < 10); omega) (by decide) dL_ticks_152 (fun H18 locs hH18 hzH18 hkH18 hS => ?_)
          have hL : LB D G μ (upd Q12 (15 + 10 * i) 0) (pwv R) H18 := hL.d (w := 7) hμ (by omega) (by decide) rfl hH18 hkH18
          obtain ⟨Q13, hQ13⟩ : ∃ Q13, Q13 = upd Q12 (15 + 10 * i) 0 := ⟨_, rfl⟩
          rw [← hQ13] at hL
          refine lv_aload_n hx hb dL_ticks_153 rfl (lv_at hl 1 rfl) ?_
          refine lv_iload hx hb dL_ticks_154 (lv_at hl 0 rfl) ?_
          refine lv_bipush (v := 6) hx hb dL_ticks_156 (by decide) ?_
          refine lv_iadd hx hb dL_ticks_158 ?_
          rw [show nI (10 * i) + (6 : Int32) = nI (10 * i + 6) from nI_add (10 * i) 6]
          refine ld_d hx hb hK hL.1 i 6 14 rfl (by omega) (by decide) rfl dL_ticks_159 ?_
          refine lv_aload_n hx hb dL_ticks_160 rfl (lv_at hl 3 rfl) ?_
          refine lv_iconst (v := 0) hx hb dL_ticks_161 (by decide) ?_
          refine dp_iald hx hb hK hL.2.2.1 0 rfl 0 rfl (by decide) (by decide) dL_ticks_162 ?_
          refine lv_icmp_ge (tgt := 179) hx hb dL_ticks_163 (by decide) (fun c20 => ?_) (fun c20 => ?_)
          · refine lv_iconst (v := 1) hx hb dL_ticks_179 (by decide) ?_
            refine lv_goto (tgt := 184) hx hb dL_ticks_180 (by decide) ?_
            refine lv_istore (lv' := [(8, .int 1), (7, .int (nI (10 * i))), (0, .ref (μ 0)), (1, .ref (μ 1)), (2, .ref (μ 2)), (3, .ref (μ 3)), (4, .int (fq R)), (5, .int tr), (6, .int (nI i))]) hx hb dL_ticks_184 hl (by decide) rfl (fun ls hl => ?_)
            refine lv_iload hx hb dL_ticks_186 (lv_at hl 7 rfl) ?_
            refine lv_iload hx hb dL_ticks_188 (lv_at hl 0 rfl) ?_
            refine lv_if_eq (tgt := 200) hx hb dL_ticks_190 (by decide) (fun c21 => absurd c21 (by decide)) (fun c21 => ?_)
            refine lv_iconst (v := 1) hx hb dL_ticks_193 (by decide) ?_
            refine lv_iload hx hb dL_ticks_194 (lv_at hl 8 rfl) ?_
            refine lv_ishl hx hb dL_ticks_196 ?_
            refine lv_goto (tgt := 201) hx hb dL_ticks_197 (by decide) ?_
            refine lv_ior hx hb dL_ticks_201 ?_
            refine lv_istore (lv' := [(5, .int (tr ||| (1 <<< ((nI i) &&& 31)))), (8, .int 1), (7, .int (nI (10 * i))), (0, .ref (μ 0)), (1, .ref (μ 1)), (2, .ref (μ 2)), (3, .ref (μ 3)), (4, .int (fq R)), (6, .int (nI i))]) hx hb dL_ticks_202 hl (by decide) rfl (fun ls hl => ?_)
            refine lv_goto (tgt := 252) hx hb dL_ticks_204 (by decide) ?_
            refine lv_iinc (v := nI (i + 1)) (lv' := [(6, .int (nI (i + 1))), (5, .int (tr ||| (1 <<< ((nI i) &&& 31)))), (8, .int 1), (7, .int (nI (10 * i))), (0, .ref (μ 0)), (1, .ref (μ 1)), (2, .ref (μ 2)), (3, .ref (μ 3)), (4, .int (fq R))]) hx hb dL_ticks_252 hl (k := 8) rfl (nI_1 i) (by decide) rfl (fun ls hl => ?_)
            refine lv_goto (tgt := 42) hx hb dL_ticks_255 (by decide) ?_
            have e8 : Q12 (8 + 10 * i) = R (8 + 10 * i) := by rw [hQ12, upd_ne (by omega), hQ11, upd_ne (by omega)]; exact tbq_at hQ (by omega) (by omega) (by omega) (fun j hj => by omega)
            have hd := dtk_l3 (by omega) hQ11 hQ12 hQ13 c15 (by rw [if_pos c18]) (by rw [if_pos ((tw_r hg (by omega) e8).mp c19)])
            have hn := dtk_next hQ hd
            exact ih42 (i + 1) (tr ||| (1 <<< ((nI i) &&& 31))) Q13 H18 (by omega) hn (by rw [htr]; exact (tbt_y ((trc_D (by omega) hn).trans (trc_1 c20))).symm) hL _ hS _ (lv_sub hl [4, 5, 6, 7, 8, 1, 0] rfl)
          refine lv_aload_n hx hb dL_ticks_166 rfl (lv_at hl 1 rfl) ?_
          refine lv_iload hx hb dL_ticks_167 (lv_at hl 0 rfl) ?_
          refine lv_bipush (v := 7) hx hb dL_ticks_169 (by decide) ?_
          refine lv_iadd hx hb dL_ticks_171 ?_
          rw [show nI (10 * i) + (7 : Int32) = nI (10 * i + 7) from nI_add (10 * i) 7]
          refine ld_d hx hb hK hL.1 i 7 15 rfl (by omega) (by decide) rfl dL_ticks_172 ?_
          refine lv_aload_n hx hb dL_ticks_173 rfl (lv_at hl 3 rfl) ?_
          refine lv_iconst (v := 1) hx hb dL_ticks_174 (by decide) ?_
          refine dp_iald hx hb hK hL.2.2.1 0 rfl 1 rfl (by decide) (by decide) dL_ticks_175 ?_
          refine lv_icmp_lt (tgt := 183) hx hb dL_ticks_176 (by decide) (fun c22 => ?_) (fun c22 => ?_)
          · refine lv_iconst (v := 0) hx hb dL_ticks_183 (by decide) ?_
            refine lv_istore (lv' := [(8, .int 0), (7, .int (nI (10 * i))), (0, .ref (μ 0)), (1, .ref (μ 1)), (2, .ref (μ 2)), (3, .ref (μ 3)), (4, .int (fq R)), (5, .int tr), (6, .int (nI i))]) hx hb dL_ticks_184 hl (by decide) rfl (fun ls hl => ?_)
            refine lv_iload hx hb dL_ticks_186 (lv_at hl 7 rfl) ?_
            refine lv_iload hx hb dL_ticks_188 (lv_at hl 0 rfl) ?_
            refine lv_if_eq (tgt := 200) hx hb dL_ticks_190 (by decide) (fun c23 => ?_) (fun c23 => absurd (by decide) c23)
            refine lv_iconst (v := 0) hx hb dL_ticks_200 (by decide) ?_
            refine lv_ior hx hb dL_ticks_201 ?_
            refine lv_istore (lv' := [(5, .int (tr ||| 0)), (8, .int 0), (7, .int (nI (10 * i))), (0, .ref (μ 0)), (1, .ref (μ 1)), (2, .ref (μ 2)), (3, .ref (μ 3)), (4, .int (fq R)), (6, .int (nI i))]) hx hb dL_ticks_202 hl (by decide) rfl (fun ls hl => ?_)
            refine lv_goto (tgt := 252) hx hb dL_ticks_204 (by decide) ?_
            refine lv_iinc (v := nI (i + 1)) (lv' := [(6, .int (nI (i + 1))), (5, .int (tr ||| 0)), (8, .int 0), (7, .int (nI (10 * i))), (0, .ref (μ 0)), (1, .ref (μ 1)), (2, .ref (μ 2)), (3, .ref (μ 3)), (4, .int (fq R))]) hx hb dL_ticks_252 hl (k := 8) rfl (nI_1 i) (by decide) rfl (fun ls hl => ?_)
            refine lv_goto (tgt := 42) hx hb dL_ticks_255 (by decide) ?_
            have e8 : Q12 (8 + 10 * i) = R (8 + 10 * i) := by rw [hQ12, upd_ne (by omega), hQ11, upd_ne (by omega)]; exact tbq_at hQ (by omega) (by omega) (by omega) (fun j hj => by omega)
            have hd := dtk_l3 (by omega) hQ11 hQ12 hQ13 c15 (by rw [if_pos c18]) (by rw [if_pos ((tw_r hg (by omega) e8).mp c19)])
            have hn := dtk_next hQ hd
            exact ih42 (i + 1) (tr ||| 0) Q13 H18 (by omega) hn (by rw [htr]; exact (tbt_n ((trc_D (by omega) hn).trans (trc_3 c20 c22))).symm) hL _ hS _ (lv_sub hl [4, 5, 6, 7, 8, 1, 0] rfl)
          refine lv_iconst (v := 1) hx hb dL_ticks_179 (by decide) ?_
          refine lv_goto (tgt := 184) hx hb dL_ticks_180 (by decide) ?_
          refine lv_istore (lv' := [(8, .int 1), (7, .int (nI (10 * i))), (0, .ref (μ 0)), (1, .ref (μ 1)), (2, .ref (μ 2)), (3, .ref (μ 3)), (4, .int (fq R)), (5, .int tr), (6, .int (nI i))]) hx hb dL_ticks_184 hl (by decide) rfl (fun ls hl => ?_)
          refine lv_iload hx hb dL_ticks_186 (lv_at hl 7 rfl) ?_
          refine lv_iload hx hb dL_ticks_188 (lv_at hl 0 rfl) ?_
          refine lv_if_eq (tgt := 200) hx hb dL_ticks_190 (by decide) (fun c24 => absurd c24 (by decide)) (fun c24 => ?_)
          refine lv_iconst (v := 1) hx hb dL_ticks_193 (by decide) ?_
          refine lv_iload hx hb dL_ticks_194 (lv_at hl 8 rfl) ?_
          refine lv_ishl hx hb dL_ticks_196 ?_
          refine lv_goto (tgt := 201) hx hb dL_ticks_197 (by decide) ?_
          refine lv_ior hx hb dL_ticks_201 ?_
          refine lv_istore (lv' := [(5, .int (tr ||| (1 <<< ((nI i) &&& 31)))), (8, .int 1), (7, .int (nI (10 * i))), (0, .ref (μ 0)), (1, .ref (μ 1)), (2, .ref (μ 2)), (3, .ref (μ 3)), (4, .int (fq R)), (6, .int (nI i))]) hx hb dL_ticks_202 hl (by decide) rfl (fun ls hl => ?_)
          refine lv_goto (tgt := 252) hx hb dL_ticks_204 (by decide) ?_
          refine lv_iinc (v := nI (i + 1)) (lv' := [(6, .int (nI (i + 1))), (5, .int (tr ||| (1 <<< ((nI i) &&& 31)))), (8, .int 1), (7, .int (nI (10 * i))), (0, .ref (μ 0)), (1, .ref (μ 1)), (2, .ref (μ 2)), (3, .ref (μ 3)), (4, .int (fq R))]) hx hb dL_ticks_252 hl (k := 8) rfl (nI_1 i) (by decide) rfl (fun ls hl => ?_)
          refine lv_goto (tgt := 42) hx hb dL_ticks_255 (by decide) ?_
          have e8 : Q12 (8 + 10 * i) = R (8 + 10 * i) := by rw [hQ12, upd_ne (by omega), hQ11, upd_ne (by omega)]; exact tbq_at hQ (by omega) (by omega) (by omega) (fun j hj => by omega)
          have hd := dtk_l3 (by omega) hQ11 hQ12 hQ13 c15 (by rw [if_pos c18]) (by rw [if_pos ((tw_r hg (by omega) e8).mp c19)])
          have hn := dtk_next hQ hd
          exact ih42 (i + 1) (tr ||| (1 <<< ((nI i) &&& 31))) Q13 H18 (by omega) hn (by rw [htr]; exact (tbt_y ((trc_D (by omega) hn).trans (trc_2 c20 c22))).symm) hL _ hS _ (lv_sub hl [4, 5, 6, 7, 8, 1, 0] rfl)
        refine lv_aload_n hx hb dL_ticks_139 rfl (lv_at hl 1 rfl) ?_
        refine lv_iload hx hb dL_ticks_140 (lv_at hl 0 rfl) ?_
        refine lv_bipush (v := 7) hx hb dL_ticks_142 (by decide) ?_
        refine lv_iadd hx hb dL_ticks_144 ?_
        rw [show nI (10 * i) + (7 : Int32) = nI (10 * i + 7) from nI_add (10 * i) 7]
        refine ld_d hx hb hK hL.1 i 7 15 rfl (by omega) (by decide) rfl dL_ticks_145 ?_
        refine lv_iconst (v := 1) hx hb dL_ticks_146 (by decide) ?_
        refine lv_iadd hx hb dL_ticks_147 ?_
        refine lv_goto (tgt := 152) hx hb dL_ticks_148 (by decide) ?_
        refine dp_iast (A := bA 4 μ) hx hb hK hL.1 (⟨0, by decide, rfl⟩ : bA 4 μ (μ 0)) hS 0 rfl (10 * i + 7) rfl (by have := ((by omega) : i < 3); have := ((by decide) : 7 < 10); omega) (by decide) dL_ticks_152 (fun H19 locs hH19 hzH19 hkH19 hS => ?_)
        have hL : LB D G μ (upd Q12 (15 + 10 * i) ((Q12 (15 + 10 * i)) + 1)) (pwv R) H19 := hL.d (w := 7) hμ (by omega) (by decide) rfl hH19 hkH19
        obtain ⟨Q13, hQ13⟩ : ∃ Q13, Q13 = upd Q12 (15 + 10 * i) ((Q12 (15 + 10 * i)) + 1) := ⟨_, rfl⟩
        rw [← hQ13] at hL
        refine lv_aload_n hx hb dL_ticks_153 rfl (lv_at hl 1 rfl) ?_
        refine lv_iload hx hb dL_ticks_154 (lv_at hl 0 rfl) ?_
        refine lv_bipush (v := 6) hx hb dL_ticks_156 (by decide) ?_
        refine lv_iadd hx hb dL_ticks_158 ?_
        rw [show nI (10 * i) + (6 : Int32) = nI (10 * i + 6) from nI_add (10 * i) 6]
        refine ld_d hx hb hK hL.1 i 6 14 rfl (by omega) (by decide) rfl dL_ticks_159 ?_
        refine lv_aload_n hx hb dL_ticks_160 rfl (lv_at hl 3 rfl) ?_
        refine lv_iconst (v := 0) hx hb dL_ticks_161 (by decide) ?_
        refine dp_iald hx hb hK hL.2.2.1 0 rfl 0 rfl (by decide) (by decide) dL_ticks_162 ?_
        refine lv_icmp_ge (tgt := 179) hx hb dL_ticks_163 (by decide) (fun c25 => ?_) (fun c25 => ?_)
        · refine lv_iconst (v := 1) hx hb dL_ticks_179 (by decide) ?_
          refine lv_goto (tgt := 184) hx hb dL_ticks_180 (by decide) ?_
          refine lv_istore (lv' := [(8, .int 1), (7, .int (nI (10 * i))), (0, .ref (μ 0)), (1, .ref (μ 1)), (2, .ref (μ 2)), (3, .ref (μ 3)), (4, .int (fq R)), (5, .int tr), (6, .int (nI i))]) hx hb dL_ticks_184 hl (by decide) rfl (fun ls hl => ?_)
          refine lv_iload hx hb dL_ticks_186 (lv_at hl 7 rfl) ?_
          refine lv_iload hx hb dL_ticks_188 (lv_at hl 0 rfl) ?_
          refine lv_if_eq (tgt := 200) hx hb dL_ticks_190 (by decide) (fun c26 => absurd c26 (by decide)) (fun c26 => ?_)
          refine lv_iconst (v := 1) hx hb dL_ticks_193 (by decide) ?_
          refine lv_iload hx hb dL_ticks_194 (lv_at hl 8 rfl) ?_
          refine lv_ishl hx hb dL_ticks_196 ?_
          refine lv_goto (tgt := 201) hx hb dL_ticks_197 (by decide) ?_
          refine lv_ior hx hb dL_ticks_201 ?_
          refine lv_istore (lv' := [(5, .int (tr ||| (1 <<< ((nI i) &&& 31)))), (8, .int 1), (7, .int (nI (10 * i))), (0, .ref (μ 0)), (1, .ref (μ 1)), (2, .ref (μ 2)), (3, .ref (μ 3)), (4, .int (fq R)), (6, .int (nI i))]) hx hb dL_ticks_202 hl (by decide) rfl (fun ls hl => ?_)
          refine lv_goto (tgt := 252) hx hb dL_ticks_204 (by decide) ?_
          refine lv_iinc (v := nI (i + 1)) (lv' := [(6, .int (nI (i + 1))), (5, .int (tr ||| (1 <<< ((nI i) &&& 31)))), (8, .int 1), (7, .int (nI (10 * i))), (0, .ref (μ 0)), (1, .ref (μ 1)), (2, .ref (μ 2)), (3, .ref (μ 3)), (4, .int (fq R))]) hx hb dL_ticks_252 hl (k := 8) rfl (nI_1 i) (by decide) rfl (fun ls hl => ?_)
          refine lv_goto (tgt := 42) hx hb dL_ticks_255 (by decide) ?_
          have e8 : Q12 (8 + 10 * i) = R (8 + 10 * i) := by rw [hQ12, upd_ne (by omega), hQ11, upd_ne (by omega)]; exact tbq_at hQ (by omega) (by omega) (by omega) (fun j hj => by omega)
          have hd := dtk_l3 (by omega) hQ11 hQ12 hQ13 c15 (by rw [if_pos c18]) (by rw [if_neg (fun q => c19 ((tw_r hg (by omega) e8).mpr q))])
          have hn := dtk_next hQ hd
          exact ih42 (i + 1) (tr ||| (1 <<< ((nI i) &&& 31))) Q13 H19 (by omega) hn (by rw [htr]; exact (tbt_y ((trc_D (by omega) hn).trans (trc_1 c25))).symm) hL _ hS _ (lv_sub hl [4, 5, 6, 7, 8, 1, 0] rfl)
        refine lv_aload_n hx hb dL_ticks_166 rfl (lv_at hl 1 rfl) ?_
        refine lv_iload hx hb dL_ticks_167 (lv_at hl 0 rfl) ?_
        refine lv_bipush (v := 7) hx hb dL_ticks_169 (by decide) ?_
        refine lv_iadd hx hb dL_ticks_171 ?_
        rw [show nI (10 * i) + (7 : Int32) = nI (10 * i + 7) from nI_add (10 * i) 7]
        refine ld_d hx hb hK hL.1 i 7 15 rfl (by omega) (by decide) rfl dL_ticks_172 ?_
        refine lv_aload_n hx hb dL_ticks_173 rfl (lv_at hl 3 rfl) ?_
        refine lv_iconst (v := 1) hx hb dL_ticks_174 (by decide) ?_
        refine dp_iald hx hb hK hL.2.2.1 0 rfl 1 rfl (by decide) (by decide) dL_ticks_175 ?_
        refine lv_icmp_lt (tgt := 183) hx hb dL_ticks_176 (by decide) (fun c27 => ?_) (fun c27 => ?_)
        · refine lv_iconst (v := 0) hx hb dL_ticks_183 (by decide) ?_
          refine lv_istore (lv' := [(8, .int 0), (7, .int (nI (10 * i))), (0, .ref (μ 0)), (1, .ref (μ 1)), (2, .ref (μ 2)), (3, .ref (μ 3)), (4, .int (fq R)), (5, .int tr), (6, .int (nI i))]) hx hb dL_ticks_184 hl (by decide) rfl (fun ls hl => ?_)
          refine lv_iload hx hb dL_ticks_186 (lv_at hl 7 rfl) ?_
          refine lv_iload hx hb dL_ticks_188 (lv_at hl 0 rfl) ?_
          refine lv_if_eq (tgt := 200) hx hb dL_ticks_190 (by decide) (fun c28 => ?_) (fun c28 => absurd (by decide) c28)
          refine lv_iconst (v := 0) hx hb dL_ticks_200 (by decide) ?_
          refine lv_ior hx hb dL_ticks_201 ?_
          refine lv_istore (lv' := [(5, .int (tr ||| 0)), (8, .int 0), (7, .int (nI (10 * i))), (0, .ref (μ 0)), (1, .ref (μ 1)), (2, .ref (μ 2)), (3, .ref (μ 3)), (4, .int (fq R)), (6, .int (nI i))]) hx hb dL_ticks_202 hl (by decide) rfl (fun ls hl => ?_)
          refine lv_goto (tgt := 252) hx hb dL_ticks_204 (by decide) ?_
          refine lv_iinc (v := nI (i + 1)) (lv' := [(6, .int (nI (i + 1))), (5, .int (tr ||| 0)), (8, .int 0), (7, .int (nI (10 * i))), (0, .ref (μ 0)), (1, .ref (μ 1)), (2, .ref (μ 2)), (3, .ref (μ 3)), (4, .int (fq R))]) hx hb dL_ticks_252 hl (k := 8) rfl (nI_1 i) (by decide) rfl (fun ls hl => ?_)
          refine lv_goto (tgt := 42) hx hb dL_ticks_255 (by decide) ?_
          have e8 : Q12 (8 + 10 * i) = R (8 + 10 * i) := by rw [hQ12, upd_ne (by omega), hQ11, upd_ne (by omega)]; exact tbq_at hQ (by omega) (by omega) (by omega) (fun j hj => by omega)
          have hd := dtk_l3 (by omega) hQ11 hQ12 hQ13 c15 (by rw [if_pos c18]) (by rw [if_neg (fun q => c19 ((tw_r hg (by omega) e8).mpr q))])
          have hn := dtk_next hQ hd
          exact ih42 (i + 1) (tr ||| 0) Q13 H19 (by omega) hn (by rw [htr]; exact (tbt_n ((trc_D (by omega) hn).trans (trc_3 c25 c27))).symm) hL _ hS _ (lv_sub hl [4, 5, 6, 7, 8, 1, 0] rfl)
        refine lv_iconst (v := 1) hx hb dL_ticks_179 (by decide) ?_
        refine lv_goto (tgt := 184) hx hb dL_ticks_180 (by decide) ?_
        refine lv_istore (lv' := [(8, .int 1), (7, .int (nI (10 * i))), (0, .ref (μ 0)), (1, .ref (μ 1)), (2, .ref (μ 2)), (3, .ref (μ 3)), (4, .int (fq R)), (5, .int tr), (6, .int (nI i))]) hx hb dL_ticks_184 hl (by decide) rfl (fun ls hl => ?_)
        refine lv_iload hx hb dL_ticks_186 (lv_at hl 7 rfl) ?_
        refine lv_iload hx hb dL_ticks_188 (lv_at hl 0 rfl) ?_
        refine lv_if_eq (tgt := 200) hx hb dL_ticks_190 (by decide) (fun c29 => absurd c29 (by decide)) (fun c29 => ?_)
        refine lv_iconst (v := 1) hx hb dL_ticks_193 (by decide) ?_
        refine lv_iload hx hb dL_ticks_194 (lv_at hl 8 rfl) ?_
        refine lv_ishl hx hb dL_ticks_196 ?_
        refine lv_goto (tgt := 201) hx hb dL_ticks_197 (by decide) ?_
        refine lv_ior hx hb dL_ticks_201 ?_
        refine lv_istore (lv' := [(5, .int (tr ||| (1 <<< ((nI i) &&& 31)))), (8, .int 1), (7, .int (nI (10 * i))), (0, .ref (μ 0)), (1, .ref (μ 1)), (2, .ref (μ 2)), (3, .ref (μ 3)), (4, .int (fq R)), (6, .int (nI i))]) hx hb dL_ticks_202 hl (by decide) rfl (fun ls hl => ?_)
        refine lv_goto (tgt := 252) hx hb dL_ticks_204 (by decide) ?_
        refine lv_iinc (v := nI (i + 1)) (lv' := [(6, .int (nI (i + 1))), (5, .int (tr ||| (1 <<< ((nI i) &&& 31)))), (8, .int 1), (7, .int (nI (10 * i))), (0, .ref (μ 0)), (1, .ref (μ 1)), (2, .ref (μ 2)), (3, .ref (μ 3)), (4, .int (fq R))]) hx hb dL_ticks_252 hl (k := 8) rfl (nI_1 i) (by decide) rfl (fun ls hl => ?_)
        refine lv_goto (tgt := 42) hx hb dL_ticks_255 (by decide) ?_
        have e8 : Q12 (8 + 10 * i) = R (8 + 10 * i) := by rw [hQ12, upd_ne (by omega), hQ11, upd_ne (by omega)]; exact tbq_at hQ (by omega) (by omega) (by omega) (fun j hj => by omega)
        have hd := dtk_l3 (by omega) hQ11 hQ12 hQ13 c15 (by rw [if_pos c18]) (by rw [if_neg (fun q => c19 ((tw_r hg (by omega) e8).mpr q))])
        have hn := dtk_next hQ hd
        exact ih42 (i + 1) (tr ||| (1 <<< ((nI i) &&& 31))) Q13 H19 (by omega) hn (by rw [htr]; exact (tbt_y ((trc_D (by omega) hn).trans (trc_2 c25 c27))).symm) hL _ hS _ (lv_sub hl [4, 5, 6, 7, 8, 1, 0] rfl)
      refine lv_aload_n hx hb dL_ticks_104 rfl (lv_at hl 1 rfl) ?_
      refine lv_iload hx hb dL_ticks_105 (lv_at hl 0 rfl) ?_
      refine lv_bipush (v := 6) hx hb dL_ticks_107 (by decide) ?_
      refine lv_iadd hx hb dL_ticks_109 ?_
      rw [show nI (10 * i) + (6 : Int32) = nI (10 * i + 6) from nI_add (10 * i) 6]
      refine ld_d hx hb hK hL.1 i 6 14 rfl (by omega) (by decide) rfl dL_ticks_110 ?_
      refine lv_iconst (v := 1) hx hb dL_ticks_111 (by decide) ?_
      refine lv_iadd hx hb dL_ticks_112 ?_
      refine lv_goto (tgt := 117) hx hb dL_ticks_113 (by decide) ?_
      refine dp_iast (A := bA 4 μ) hx hb hK hL.1 (⟨0, by decide, rfl⟩ : bA 4 μ (μ 0)) hS 0 rfl (10 * i + 6) rfl (by have := ((by omega) : i < 3); have := ((by decide) : 6 < 10); omega) (by decide) dL_ticks_117 (fun H20 locs hH20 hzH20 hkH20 hS => ?_)
      have hL : LB D G μ (upd Q11 (14 + 10 * i) ((Q11 (14 + 10 * i)) + 1)) (pwv R) H20 := hL.d (w := 6) hμ (by omega) (by decide) rfl hH20 hkH20
      obtain ⟨Q12, hQ12⟩ : ∃ Q12, Q12 = upd Q11 (14 + 10 * i) ((Q11 (14 + 10 * i)) + 1) := ⟨_, rfl⟩
      rw [← hQ12] at hL
      refine lv_aload_n hx hb dL_ticks_118 rfl (lv_at hl 1 rfl) ?_
      refine lv_iload hx hb dL_ticks_119 (lv_at hl 0 rfl) ?_
      refine lv_bipush (v := 7) hx hb dL_ticks_121 (by decide) ?_
      refine lv_iadd hx hb dL_ticks_123 ?_
      rw [show nI (10 * i) + (7 : Int32) = nI (10 * i + 7) from nI_add (10 * i) 7]
      refine lv_aload_n hx hb dL_ticks_124 rfl (lv_at hl 4 rfl) ?_
      refine lv_iload hx hb dL_ticks_125 (lv_at hl 7 rfl) ?_
      refine dp_iald hx hb hK hL.2.2.2 0 rfl i rfl (by omega) (by decide) dL_ticks_127 ?_
      refine lv_aload_n hx hb dL_ticks_128 rfl (lv_at hl 1 rfl) ?_
      refine lv_iload hx hb dL_ticks_129 (lv_at hl 0 rfl) ?_
      refine ld_d hx hb hK hL.1 i 0 8 rfl (by omega) (by decide) rfl dL_ticks_131 ?_
      refine lv_bipush (v := 20) hx hb dL_ticks_132 (by decide) ?_
      refine lv_idiv hx hb dL_ticks_134 (by decide) ?_
      refine lv_iadd hx hb dL_ticks_135 ?_
      refine lv_if_ge (tgt := 151) hx hb dL_ticks_136 (by decide) (fun c30 => ?_) (fun c30 => ?_)
      · refine lv_iconst (v := 0) hx hb dL_ticks_151 (by decide) ?_
        refine dp_iast (A := bA 4 μ) hx hb hK hL.1 (⟨0, by decide, rfl⟩ : bA 4 μ (μ 0)) hS 0 rfl (10 * i + 7) rfl (by have := ((by omega) : i < 3); have := ((by decide) : 7 < 10); omega) (by decide) dL_ticks_152 (fun H21 locs hH21 hzH21 hkH21 hS => ?_)
        have hL : LB D G μ (upd Q12 (15 + 10 * i) 0) (pwv R) H21 := hL.d (w := 7) hμ (by omega) (by decide) rfl hH21 hkH21
        obtain ⟨Q13, hQ13⟩ : ∃ Q13, Q13 = upd Q12 (15 + 10 * i) 0 := ⟨_, rfl⟩
        rw [← hQ13] at hL
        refine lv_aload_n hx hb dL_ticks_153 rfl (lv_at hl 1 rfl) ?_
        refine lv_iload hx hb dL_ticks_154 (lv_at hl 0 rfl) ?_
        refine lv_bipush (v := 6) hx hb dL_ticks_156 (by decide) ?_
        refine lv_iadd hx hb dL_ticks_158 ?_
        rw [show nI (10 * i) + (6 : Int32) = nI (10 * i + 6) from nI_add (10 * i) 6]
        refine ld_d hx hb hK hL.1 i 6 14 rfl (by omega) (by decide) rfl dL_ticks_159 ?_
        refine lv_aload_n hx hb dL_ticks_160 rfl (lv_at hl 3 rfl) ?_
        refine lv_iconst (v := 0) hx hb dL_ticks_161 (by decide) ?_
        refine dp_iald hx hb hK hL.2.2.1 0 rfl 0 rfl (by decide) (by decide) dL_ticks_162 ?_
        refine lv_icmp_ge (tgt := 179) hx hb dL_ticks_163 (by decide) (fun c31 => ?_) (fun c31 => ?_)
        · refine lv_iconst (v := 1) hx hb dL_ticks_179 (by decide) ?_
          refine lv_goto (tgt := 184) hx hb dL_ticks_180 (by decide) ?_
          refine lv_istore (lv' := [(8, .int 1), (7, .int (nI (10 * i))), (0, .ref (μ 0)), (1, .ref (μ 1)), (2, .ref (μ 2)), (3, .ref (μ 3)), (4, .int (fq R)), (5, .int tr), (6, .int (nI i))]) hx hb dL_ticks_184 hl (by decide) rfl (fun ls hl => ?_)
          refine lv_iload hx hb dL_ticks_186 (lv_at hl 7 rfl) ?_
          refine lv_iload hx hb dL_ticks_188 (lv_at hl 0 rfl) ?_
          refine lv_if_eq (tgt := 200) hx hb dL_ticks_190 (by decide) (fun c32 => absurd c32 (by decide)) (fun c32 => ?_)
          refine lv_iconst (v := 1) hx hb dL_ticks_193 (by decide) ?_
          refine lv_iload hx hb dL_ticks_194 (lv_at hl 8 rfl) ?_
          refine lv_ishl hx hb dL_ticks_196 ?_
          refine lv_goto (tgt := 201) hx hb dL_ticks_197 (by decide) ?_
          refine lv_ior hx hb dL_ticks_201 ?_
          refine lv_istore (lv' := [(5, .int (tr ||| (1 <<< ((nI i) &&& 31)))), (8, .int 1), (7, .int (nI (10 * i))), (0, .ref (μ 0)), (1, .ref (μ 1)), (2, .ref (μ 2)), (3, .ref (μ 3)), (4, .int (fq R)), (6, .int (nI i))]) hx hb dL_ticks_202 hl (by decide) rfl (fun ls hl => ?_)
          refine lv_goto (tgt := 252) hx hb dL_ticks_204 (by decide) ?_
          refine lv_iinc (v := nI (i + 1)) (lv' := [(6, .int (nI (i + 1))), (5, .int (tr ||| (1 <<< ((nI i) &&& 31)))), (8, .int 1), (7, .int (nI (10 * i))), (0, .ref (μ 0)), (1, .ref (μ 1)), (2, .ref (μ 2)), (3, .ref (μ 3)), (4, .int (fq R))]) hx hb dL_ticks_252 hl (k := 8) rfl (nI_1 i) (by decide) rfl (fun ls hl => ?_)
          refine lv_goto (tgt := 42) hx hb dL_ticks_255 (by decide) ?_
          have e8 : Q12 (8 + 10 * i) = R (8 + 10 * i) := by rw [hQ12, upd_ne (by omega), hQ11, upd_ne (by omega)]; exact tbq_at hQ (by omega) (by omega) (by omega) (fun j hj => by omega)
          have hd := dtk_l3 (by omega) hQ11 hQ12 hQ13 c15 (by rw [if_neg c18]) (by rw [if_pos ((tw_r hg (by omega) e8).mp c30)])
          have hn := dtk_next hQ hd
          exact ih42 (i + 1) (tr ||| (1 <<< ((nI i) &&& 31))) Q13 H21 (by omega) hn (by rw [htr]; exact (tbt_y ((trc_D (by omega) hn).trans (trc_1 c31))).symm) hL _ hS _ (lv_sub hl [4, 5, 6, 7, 8, 1, 0] rfl)
        refine lv_aload_n hx hb dL_ticks_166 rfl (lv_at hl 1 rfl) ?_
        refine lv_iload hx hb dL_ticks_167 (lv_at hl 0 rfl) ?_
        refine lv_bipush (v := 7) hx hb dL_ticks_169 (by decide) ?_
        refine lv_iadd hx hb dL_ticks_171 ?_
        rw [show nI (10 * i) + (7 : Int32) = nI (10 * i + 7) from nI_add (10 * i) 7]
        refine ld_d hx hb hK hL.1 i 7 15 rfl (by omega) (by decide) rfl dL_ticks_172 ?_
        refine lv_aload_n hx hb dL_ticks_173 rfl (lv_at hl 3 rfl) ?_
        refine lv_iconst (v := 1) hx hb dL_ticks_174 (by decide) ?_
        refine dp_iald hx hb hK hL.2.2.1 0 rfl 1 rfl (by decide) (by decide) dL_ticks_175 ?_
        refine lv_icmp_lt (tgt := 183) hx hb dL_ticks_176 (by decide) (fun c33 => ?_) (fun c33 => ?_)
        · refine lv_iconst (v := 0) hx hb dL_ticks_183 (by decide) ?_
          refine lv_istore (lv' := [(8, .int 0), (7, .int (nI (10 * i))), (0, .ref (μ 0)), (1, .ref (μ 1)), (2, .ref (μ 2)), (3, .ref (μ 3)), (4, .int (fq R)), (5, .int tr), (6, .int (nI i))]) hx hb dL_ticks_184 hl (by decide) rfl (fun ls hl => ?_)
          refine lv_iload hx hb dL_ticks_186 (lv_at hl 7 rfl) ?_
          refine lv_iload hx hb dL_ticks_188 (lv_at hl 0 rfl) ?_
          refine lv_if_eq (tgt := 200) hx hb dL_ticks_190 (by decide) (fun c34 => ?_) (fun c34 => absurd (by decide) c34)
          refine lv_iconst (v := 0) hx hb dL_ticks_200 (by decide) ?_
          refine lv_ior hx hb dL_ticks_201 ?_
          refine lv_istore (lv' := [(5, .int (tr ||| 0)), (8, .int 0), (7, .int (nI (10 * i))), (0, .ref (μ 0)), (1, .ref (μ 1)), (2, .ref (μ 2)), (3, .ref (μ 3)), (4, .int (fq R)), (6, .int (nI i))]) hx hb dL_ticks_202 hl (by decide) rfl (fun ls hl => ?_)
          refine lv_goto (tgt := 252) hx hb dL_ticks_204 (by decide) ?_
          refine lv_iinc (v := nI (i + 1)) (lv' := [(6, .int (nI (i + 1))), (5, .int (tr ||| 0)), (8, .int 0), (7, .int (nI (10 * i))), (0, .ref (μ 0)), (1, .ref (μ 1)), (2, .ref (μ 2)), (3, .ref (μ 3)), (4, .int (fq R))]) hx hb dL_ticks_252 hl (k := 8) rfl (nI_1 i) (by decide) rfl (fun ls hl => ?_)
          refine lv_goto (tgt := 42) hx hb dL_ticks_255 (by decide) ?_
          have e8 : Q12 (8 + 10 * i) = R (8 + 10 * i) := by rw [hQ12, upd_ne (by omega), hQ11, upd_ne (by omega)]; exact tbq_at hQ (by omega) (by omega) (by omega) (fun j hj => by omega)
          have hd := dtk_l3 (by omega) hQ11 hQ12 hQ13 c15 (by rw [if_neg c18]) (by rw [if_pos ((tw_r hg (by omega) e8).mp c30)])
          have hn := dtk_next hQ hd
          exact ih42 (i + 1) (tr ||| 0) Q13 H21 (by omega) hn (by rw [htr]; exact (tbt_n ((trc_D (by omega) hn).trans (trc_3 c31 c33))).symm) hL _ hS _ (lv_sub hl [4, 5, 6, 7, 8, 1, 0] rfl)
        refine lv_iconst (v := 1) hx hb dL_ticks_179 (by decide) ?_
        refine lv_goto (tgt := 184) hx hb dL_ticks_180 (by decide) ?_
        refine lv_istore (lv' := [(8, .int 1), (7, .int (nI (10 * i))), (0, .ref (μ 0)), (1, .ref (μ 1)), (2, .ref (μ 2)), (3, .ref (μ 3)), (4, .int (fq R)), (5, .int tr), (6, .int (nI i))]) hx hb dL_ticks_184 hl (by decide) rfl (fun ls hl => ?_)
        refine lv_iload hx hb dL_ticks_186 (lv_at hl 7 rfl) ?_
        refine lv_iload hx hb dL_ticks_188 (lv_at hl 0 rfl) ?_
        refine lv_if_eq (tgt := 200) hx hb dL_ticks_190 (by decide) (fun c35 => absurd c35 (by decide)) (fun c35 => ?_)
        refine lv_iconst (v := 1) hx hb dL_ticks_193 (by decide) ?_
        refine lv_iload hx hb dL_ticks_194 (lv_at hl 8 rfl) ?_
        refine lv_ishl hx hb dL_ticks_196 ?_
        refine lv_goto (tgt := 201) hx hb dL_ticks_197 (by decide) ?_
        refine lv_ior hx hb dL_ticks_201 ?_
        refine lv_istore (lv' := [(5, .int (tr ||| (1 <<< ((nI i) &&& 31)))), (8, .int 1), (7, .int (nI (10 * i))), (0, .ref (μ 0)), (1, .ref (μ 1)), (2, .ref (μ 2)), (3, .ref (μ 3)), (4, .int (fq R)), (6, .int (nI i))]) hx hb dL_ticks_202 hl (by decide) rfl (fun ls hl => ?_)
        refine lv_goto (tgt := 252) hx hb dL_ticks_204 (by decide) ?_
        refine lv_iinc (v := nI (i + 1)) (lv' := [(6, .int (nI (i + 1))), (5, .int (tr ||| (1 <<< ((nI i) &&& 31)))), (8, .int 1), (7, .int (nI (10 * i))), (0, .ref (μ 0)), (1, .ref (μ 1)), (2, .ref (μ 2)), (3, .ref (μ 3)), (4, .int (fq R))]) hx hb dL_ticks_252 hl (k := 8) rfl (nI_1 i) (by decide) rfl (fun ls hl => ?_)
        refine lv_goto (tgt := 42) hx hb dL_ticks_255 (by decide) ?_
        have e8 : Q12 (8 + 10 * i) = R (8 + 10 * i) := by rw [hQ12, upd_ne (by omega), hQ11, upd_ne (by omega)]; exact tbq_at hQ (by omega) (by omega) (by omega) (fun j hj => by omega)
        have hd := dtk_l3 (by omega) hQ11 hQ12 hQ13 c15 (by rw [if_neg c18]) (by rw [if_pos ((tw_r hg (by omega) e8).mp c30)])
        have hn := dtk_next hQ hd
        exact ih42 (i + 1) (tr ||| (1 <<< ((nI i) &&& 31))) Q13 H21 (by omega) hn (by rw [htr]; exact (tbt_y ((trc_D (by omega) hn).trans (trc_2 c31 c33))).symm) hL _ hS _ (lv_sub hl [4, 5, 6, 7, 8, 1, 0] rfl)
      refine lv_aload_n hx hb dL_ticks_139 rfl (lv_at hl 1 rfl) ?_
      refine lv_iload hx hb dL_ticks_140 (lv_at hl 0 rfl) ?_
      refine lv_bipush (v := 7) hx hb dL_ticks_142 (by decide) ?_
      refine lv_iadd hx hb dL_ticks_144 ?_
      rw [show nI (10 * i) + (7 : Int32) = nI (10 * i + 7) from nI_add (10 * i) 7]
      refine ld_d hx hb hK hL.1 i 7 15 rfl (by omega) (by decide) rfl dL_ticks_145 ?_
      refine lv_iconst (v := 1) hx hb dL_ticks_146 (by decide) ?_
      refine lv_iadd hx hb dL_ticks_147 ?_
      refine lv_goto (tgt := 152) hx hb dL_ticks_148 (by decide) ?_
      refine dp_iast (A := bA 4 μ) hx hb hK hL.1 (⟨0, by decide, rfl⟩ : bA 4 μ (μ 0)) hS 0 rfl (10 * i + 7) rfl (by have := ((by omega) : i < 3); have := ((by decide) : 7 < 10); omega) (by decide) dL_ticks_152 (fun H22 locs hH22 hzH22 hkH22 hS => ?_)
      have hL : LB D G μ (upd Q12 (15 + 10 * i) ((Q12 (15 + 10 * i)) + 1)) (pwv R) H22 := hL.d (w := 7) hμ (by omega) (by decide) rfl hH22 hkH22
      obtain ⟨Q13, hQ13⟩ : ∃ Q13, Q13 = upd Q12 (15 + 10 * i) ((Q12 (15 + 10 * i)) + 1) := ⟨_, rfl⟩
      rw [← hQ13] at hL
      refine lv_aload_n hx hb dL_ticks_153 rfl (lv_at hl 1 rfl) ?_
      refine lv_iload hx hb dL_ticks_154 (lv_at hl 0 rfl) ?_
      refine lv_bipush (v := 6) hx hb dL_ticks_156 (by decide) ?_
      refine lv_iadd hx hb dL_ticks_158 ?_
      rw [show nI (10 * i) + (6 : Int32) = nI (10 * i + 6) from nI_add (10 * i) 6]
      refine ld_d hx hb hK hL.1 i 6 14 rfl (by omega) (by decide) rfl dL_ticks_159 ?_
      refine lv_aload_n hx hb dL_ticks_160 rfl (lv_at hl 3 rfl) ?_
      refine lv_iconst (v := 0) hx hb dL_ticks_161 (by decide) ?_
      refine dp_iald hx hb hK hL.2.2.1 0 rfl 0 rfl (by decide) (by decide) dL_ticks_162 ?_
      refine lv_icmp_ge (tgt := 179) hx hb dL_ticks_163 (by decide) (fun c36 => ?_) (fun c36 => ?_)
      · refine lv_iconst (v := 1) hx hb dL_ticks_179 (by decide) ?_
        refine lv_goto (tgt := 184) hx hb dL_ticks_180 (by decide) ?_
        refine lv_istore (lv' := [(8, .int 1), (7, .int (nI (10 * i))), (0, .ref (μ 0)), (1, .ref (μ 1)), (2, .ref (μ 2)), (3, .ref (μ 3)), (4, .int (fq R)), (5, .int tr), (6, .int (nI i))]) hx hb dL_ticks_184 hl (by decide) rfl (fun ls hl => ?_)
        refine lv_iload hx hb dL_ticks_186 (lv_at hl 7 rfl) ?_
        refine lv_iload hx hb dL_ticks_188 (lv_at hl 0 rfl) ?_
        refine lv_if_eq (tgt := 200) hx hb dL_ticks_190 (by decide) (fun c37 => absurd c37 (by decide)) (fun c37 => ?_)
        refine lv_iconst (v := 1) hx hb dL_ticks_193 (by decide) ?_
        refine lv_iload hx hb dL_ticks_194 (lv_at hl 8 rfl) ?_
        refine lv_ishl hx hb dL_ticks_196 ?_
        refine lv_goto (tgt := 201) hx hb dL_ticks_197 (by decide) ?_
        refine lv_ior hx hb dL_ticks_201 ?_
        refine lv_istore (lv' := [(5, .int (tr ||| (1 <<< ((nI i) &&& 31)))), (8, .int 1), (7, .int (nI (10 * i))), (0, .ref (μ 0)), (1, .ref (μ 1)), (2, .ref (μ 2)), (3, .ref (μ 3)), (4, .int (fq R)), (6, .int (nI i))]) hx hb dL_ticks_202 hl (by decide) rfl (fun ls hl => ?_)
        refine lv_goto (tgt := 252) hx hb dL_ticks_204 (by decide) ?_
        refine lv_iinc (v := nI (i + 1)) (lv' := [(6, .int (nI (i + 1))), (5, .int (tr ||| (1 <<< ((nI i) &&& 31)))), (8, .int 1), (7, .int (nI (10 * i))), (0, .ref (μ 0)), (1, .ref (μ 1)), (2, .ref (μ 2)), (3, .ref (μ 3)), (4, .int (fq R))]) hx hb dL_ticks_252 hl (k := 8) rfl (nI_1 i) (by decide) rfl (fun ls hl => ?_)
        refine lv_goto (tgt := 42) hx hb dL_ticks_255 (by decide) ?_
        have e8 : Q12 (8 + 10 * i) = R (8 + 10 * i) := by rw [hQ12, upd_ne (by omega), hQ11, upd_ne (by omega)]; exact tbq_at hQ (by omega) (by omega) (by omega) (fun j hj => by omega)
        have hd := dtk_l3 (by omega) hQ11 hQ12 hQ13 c15 (by rw [if_neg c18]) (by rw [if_neg (fun q => c30 ((tw_r hg (by omega) e8).mpr q))])
        have hn := dtk_next hQ hd
        exact ih42 (i + 1) (tr ||| (1 <<< ((nI i) &&& 31))) Q13 H22 (by omega) hn (by rw [htr]; exact (tbt_y ((trc_D (by omega) hn).trans (trc_1 c36))).symm) hL _ hS _ (lv_sub hl [4, 5, 6, 7, 8, 1, 0] rfl)
      refine lv_aload_n hx hb dL_ticks_166 rfl (lv_at hl 1 rfl) ?_
      refine lv_iload hx hb dL_ticks_167 (lv_at hl 0 rfl) ?_
      refine lv_bipush (v := 7) hx hb dL_ticks_169 (by decide) ?_
      refine lv_iadd hx hb dL_ticks_171 ?_
      rw [show nI (10 * i) + (7 : Int32) = nI (10 * i + 7) from nI_add (10 * i) 7]
      refine ld_d hx hb hK hL.1 i 7 15 rfl (by omega) (by decide) rfl dL_ticks_172 ?_
      refine lv_aload_n hx hb dL_ticks_173 rfl (lv_at hl 3 rfl) ?_
      refine lv_iconst (v := 1) hx hb dL_ticks_174 (by decide) ?_
      refine dp_iald hx hb hK hL.2.2.1 0 rfl 1 rfl (by decide) (by decide) dL_ticks_175 ?_
      refine lv_icmp_lt (tgt := 183) hx hb dL_ticks_176 (by decide) (fun c38 => ?_) (fun c38 => ?_)
      · refine lv_iconst (v := 0) hx hb dL_ticks_183 (by decide) ?_
        refine lv_istore (lv' := [(8, .int 0), (7, .int (nI (10 * i))), (0, .ref (μ 0)), (1, .ref (μ 1)), (2, .ref (μ 2)), (3, .ref (μ 3)), (4, .int (fq R)), (5, .int tr), (6, .int (nI i))]) hx hb dL_ticks_184 hl (by decide) rfl (fun ls hl => ?_)
        refine lv_iload hx hb dL_ticks_186 (lv_at hl 7 rfl) ?_
        refine lv_iload hx hb dL_ticks_188 (lv_at hl 0 rfl) ?_
        refine lv_if_eq (tgt := 200) hx hb dL_ticks_190 (by decide) (fun c39 => ?_) (fun c39 => absurd (by decide) c39)
        refine lv_iconst (v := 0) hx hb dL_ticks_200 (by decide) ?_
        refine lv_ior hx hb dL_ticks_201 ?_
        refine lv_istore (lv' := [(5, .int (tr ||| 0)), (8, .int 0), (7, .int (nI (10 * i))), (0, .ref (μ 0)), (1, .ref (μ 1)), (2, .ref (μ 2)), (3, .ref (μ 3)), (4, .int (fq R)), (6, .int (nI i))]) hx hb dL_ticks_202 hl (by decide) rfl (fun ls hl => ?_)
        refine lv_goto (tgt := 252) hx hb dL_ticks_204 (by decide) ?_
        refine lv_iinc (v := nI (i + 1)) (lv' := [(6, .int (nI (i + 1))), (5, .int (tr ||| 0)), (8, .int 0), (7, .int (nI (10 * i))), (0, .ref (μ 0)), (1, .ref (μ 1)), (2, .ref (μ 2)), (3, .ref (μ 3)), (4, .int (fq R))]) hx hb dL_ticks_252 hl (k := 8) rfl (nI_1 i) (by decide) rfl (fun ls hl => ?_)
        refine lv_goto (tgt := 42) hx hb dL_ticks_255 (by decide) ?_
        have e8 : Q12 (8 + 10 * i) = R (8 + 10 * i) := by rw [hQ12, upd_ne (by omega), hQ11, upd_ne (by omega)]; exact tbq_at hQ (by omega) (by omega) (by omega) (fun j hj => by omega)
        have hd := dtk_l3 (by omega) hQ11 hQ12 hQ13 c15 (by rw [if_neg c18]) (by rw [if_neg (fun q => c30 ((tw_r hg (by omega) e8).mpr q))])
        have hn := dtk_next hQ hd
        exact ih42 (i + 1) (tr ||| 0) Q13 H22 (by omega) hn (by rw [htr]; exact (tbt_n ((trc_D (by omega) hn).trans (trc_3 c36 c38))).symm) hL _ hS _ (lv_sub hl [4, 5, 6, 7, 8, 1, 0] rfl)
      refine lv_iconst (v := 1) hx hb dL_ticks_179 (by decide) ?_
      refine lv_goto (tgt := 184) hx hb dL_ticks_180 (by decide) ?_
      refine lv_istore (lv' := [(8, .int 1), (7, .int (nI (10 * i))), (0, .ref (μ 0)), (1, .ref (μ 1)), (2, .ref (μ 2)), (3, .ref (μ 3)), (4, .int (fq R)), (5, .int tr), (6, .int (nI i))]) hx hb dL_ticks_184 hl (by decide) rfl (fun ls hl => ?_)
      refine lv_iload hx hb dL_ticks_186 (lv_at hl 7 rfl) ?_
      refine lv_iload hx hb dL_ticks_188 (lv_at hl 0 rfl) ?_
      refine lv_if_eq (tgt := 200) hx hb dL_ticks_190 (by decide) (fun c40 => absurd c40 (by decide)) (fun c40 => ?_)
      refine lv_iconst (v := 1) hx hb dL_ticks_193 (by decide) ?_
      refine lv_iload hx hb dL_ticks_194 (lv_at hl 8 rfl) ?_
      refine lv_ishl hx hb dL_ticks_196 ?_
      refine lv_goto (tgt := 201) hx hb dL_ticks_197 (by decide) ?_
      refine lv_ior hx hb dL_ticks_201 ?_
      refine lv_istore (lv' := [(5, .int (tr ||| (1 <<< ((nI i) &&& 31)))), (8, .int 1), (7, .int (nI (10 * i))), (0, .ref (μ 0)), (1, .ref (μ 1)), (2, .ref (μ 2)), (3, .ref (μ 3)), (4, .int (fq R)), (6, .int (nI i))]) hx hb dL_ticks_202 hl (by decide) rfl (fun ls hl => ?_)
      refine lv_goto (tgt := 252) hx hb dL_ticks_204 (by decide) ?_
      refine lv_iinc (v := nI (i + 1)) (lv' := [(6, .int (nI (i + 1))), (5, .int (tr ||| (1 <<< ((nI i) &&& 31)))), (8, .int 1), (7, .int (nI (10 * i))), (0, .ref (μ 0)), (1, .ref (μ 1)), (2, .ref (μ 2)), (3, .ref (μ 3)), (4, .int (fq R))]) hx hb dL_ticks_252 hl (k := 8) rfl (nI_1 i) (by decide) rfl (fun ls hl => ?_)
      refine lv_goto (tgt := 42) hx hb dL_ticks_255 (by decide) ?_
      have e8 : Q12 (8 + 10 * i) = R (8 + 10 * i) := by rw [hQ12, upd_ne (by omega), hQ11, upd_ne (by omega)]; exact tbq_at hQ (by omega) (by omega) (by omega) (fun j hj => by omega)
      have hd := dtk_l3 (by omega) hQ11 hQ12 hQ13 c15 (by rw [if_neg c18]) (by rw [if_neg (fun q => c30 ((tw_r hg (by omega) e8).mpr q))])
      have hn := dtk_next hQ hd
      exact ih42 (i + 1) (tr ||| (1 <<< ((nI i) &&& 31))) Q13 H22 (by omega) hn (by rw [htr]; exact (tbt_y ((trc_D (by omega) hn).trans (trc_2 c36 c38))).symm) hL _ hS _ (lv_sub hl [4, 5, 6, 7, 8, 1, 0] rfl)
  exact loop42 3 0 0 Q2 H5 rfl hQ0 rfl hL _ hS _ (lv_sub hl [3, 4, 5, 6, 2, 1, 0] rfl)
