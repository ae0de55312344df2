set_option maxHeartbeats 600000 in
set_option maxRecDepth 100000 in
theorem c_L_cell (l : Launch) (D : va_G) (G : Nat → ClassId) (b L : Nat) (xs : Nat → Int32) (k : Nat) (H : Heap) (hk : k < 2 ^ 31) (hL9 : L < 2 ^ 31) : Met l yL_cell wsL_cell ({ frames := 0, cells := 0, slots := 0, locals := 0 } : Room) (va_Pc [.ref b, .int (nI k)] (CXs D G b L xs H)) (QI nA (fun r h => H = h)) 0 0 (nA) := by
  refine Met.ofW (cc := cL_cell) (maxL := 2) (ret := (some .int)) (by decide) rfl ?_
  intro p e s m args below meth c s₁ B0 hml hv
  obtain ⟨rfl, ⟨rfl, hK, hN⟩, hX⟩ := hv
  have hx := B0.exec
  have hb := B0.bytes
  have hr := B0.returns
  have hts := atoms_spec (ws := wsL_cell) B0.pre
  have hown : s.vm.findClass RL = some m.cls := findClass_of_methodNamed B0.named
  have hlocks := B0.notSynchronized
  have hF : CallFix p m c cL_cell 2 s ([.ref b, .int (nI k)] : List Value).toArray wsL_cell RL := ⟨hx, hb, hml, hown, hts⟩
  have hS : va_S (nA) s.heap s.heap [] := va_S.rf
  have hl := lv_entry ([.ref b, .int (nI k)]) (n := 2) (Nat.le_of_ble_eq_true rfl)
  rw [lg_entry_eq]
  generalize (lg_sl ([.ref b, .int (nI k)]) ++ List.replicate (2 - (lg_sl ([.ref b, .int (nI k)])).length) Slot.unset).toArray = ls at hl ⊢
  have hl : lv_has ls 2 [(0, .ref b), (1, .int (nI k))] := hl
  have hbl := vx_lt2 hX
  refine lv_iload_n hx hb dL_cell_0 rfl (lv_at hl 1 rfl) ?_
  refine lv_aload_n hx hb dL_cell_1 rfl (lv_at hl 0 rfl) ?_
  refine va_slen hx hb hX hbl (fun h => h) hS dL_cell_2 ?_
  refine lv_icmp_ge (tgt := 12) hx hb dL_cell_3 (by decide) (fun c1 => ?_) (fun c1 => ?_)
  · refine lv_ldc (v := (528734635)) hx hb hown (hts (.constant RL 7 (528734635)) (List.mem_of_getElem? (i := 1) rfl)) dL_cell_12 ?_
    refine lv_iload_n hx hb dL_cell_14 rfl (lv_at hl 1 rfl) ?_
    refine lv_iconst (v := 1) hx hb dL_cell_15 (by decide) ?_
    refine lv_iadd hx hb dL_cell_16 ?_
    refine lv_imul hx hb dL_cell_17 ?_
    exact W.iret hx hb hr (fun t ht hW => ⟨⟨528734635 * ((nI k) + 1), s.heap, rfl, rfl, ht⟩, hS.F ht⟩) hS.2.2 dL_cell_18
  refine lv_aload_n hx hb dL_cell_6 rfl (lv_at hl 0 rfl) ?_
  refine lv_iload_n hx hb dL_cell_7 rfl (lv_at hl 1 rfl) ?_
  have hkl : k < L := by rcases Nat.lt_or_ge k L with q | q; exact q; exact absurd (nI_le q hk) c1
  refine va_sld hx hb hX hbl (fun h => h) hS (vp_in_nI (n := k) (N := L) hkl (by omega)) dL_cell_8 ?_
  refine lv_goto (tgt := 18) hx hb dL_cell_9 (by decide) ?_
  exact W.iret hx hb hr (fun t ht hW => ⟨⟨xs (nI k).toNatClampNeg, s.heap, rfl, rfl, ht⟩, hS.F ht⟩) hS.2.2 dL_cell_18
