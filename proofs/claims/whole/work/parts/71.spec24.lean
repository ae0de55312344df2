/-! the law's calls of the class: what is caught, what is kept -/
section DPL
variable {p : Program} {l : Launch} {e : Env} {R : Room} {s : State} {m : MethodId} {args : Array Value} {below : List Frame} {meth : Method} {c : Code} {H : Heap} {locs : List Loc} {cells slots : Nat} {Q : State → Prop}
variable {cc : ByteArray} {pc : Nat} {ls : Array Slot} {D : va_G} {G : Nat → ClassId} {A0 A1 : Nat → Prop}
variable {y : MethodName} {bytes : ByteArray} {maxL nL mc ms n index : Nat} {ret : Option FieldType} {ws : List Cond} {rm : Room} {Ts : List Cond} {own C : String} {b : Addr} {As st0 : List Value}
theorem dp_ofWH {ws' : List Cond} {Pc : Array Value → State → Prop} {Qc : Array Value → State → Outcome → State → Prop} {free : Addr → Prop} {hh : List (Nat × Nat × Nat × Nat)}
    (hy : plainName y.cls = true) (hw : ws = Cond.codeWith y cc maxL ret hh :: ws')
    (body : ∀ p e s m args below meth c s₁, BodyLoose p l y (headSpec ws rm) cc maxL ret e s m args below meth c s₁ → c.maxLocals = maxL → Pc args s →
      W p l e (headSpec ws rm).room s m args below meth c s.heap [] 0 0 (MQ below Qc args s mc ms free) (entryFrame m args maxL)) : Met l y ws rm Pc Qc mc ms free := by
  refine MetFree.of_bodyS (code := cc) (maxLocals := maxL) (ret := ret) hy ?_ ?_
  · intro args s m h hn
    obtain ⟨m9, meth, c, hn9, h1, h2, h3, h4, -, h5, h6, -⟩ := Cond.codeWith_spec (atoms_spec (ws := ws) h _ (by rw [hw]; exact List.mem_cons_self))
    cases hn.symm.trans hn9
    exact ⟨meth, c, h1, h2, h3, h4, h5, h6⟩
  · intro p e s m args below meth c s₁ B hml hP _
    have hh0 : s₁.heap = s.heap := by rw [B.state]; rfl
    obtain ⟨t, a1, o, b1, b2, b3⟩ := body p e s m args below meth c s₁ B hml hP s₁ hh0 (Stand.of_body B)
    exact ⟨t, o, a1, b1, b2, ⟨b3.1, b3.2⟩⟩
/-- a call that may throw: what is thrown is handed on to the place of the call -/
theorem dpc_Vi {P : Int32 → Heap → Prop} {PXc : String → Prop} (S : CallFix p m c cc nL s args Ts own) (hK : va_K D vwCl (tyS G) s) (hN : NW s) (hE : EWt s) (hZ : EWh A0 s s.heap) (hM : vx_Met l y ws rm (va_Pc (.ref b :: As) (CE D G A1 H)) (QI A1 P) (XX PXc) mc ms A1) (cw : CallW R s args own C index y bytes maxL ret ws rm mc ms n) (hrc : ∃ cellB : Cell, H[b]? = some cellB ∧ cellB.vm.isStatics = false ∧ s.vm.findClass C = some cellB.cls) (hS : va_S A0 s.heap H locs) (hA : ∀ q, A1 q → A0 q) (rest : List Value) (hst : st0 = As.reverse ++ .ref b :: rest) (hn : As.length = n) (hsize : ls.size = nL) (hW : (rest.map fun v => v.category).sum ≤ 8) (hdg : decode cc pc = .ok (.invokevirtual index, 3)) (hf : cells + mc ≤ R.cells ∧ slots + ms ≤ R.slots)
    (kx : ∀ (E : String) (ce : Cell) (q9 : Addr) (H1 : Heap) (locs1 : List Loc), PXc E → H.size ≤ H1.size → (∀ q : Nat, q < H.size → H1[q]? = H[q]?) → va_S A0 s.heap H1 locs1 → H1[q9]? = some ce → ce.vm = .none → s.vm.findClass E = some ce.cls → vx_W p l e R s m args below meth c H1 locs1 (cells + mc) (slots + ms) Q (F0 m pc ls rest) q9)
    (kk : ∀ (r : Int32) (H1 : Heap) (locs1 : List Loc), P r H1 → H.size ≤ H1.size → (∀ q : Nat, q < H.size → ¬ A1 q → H1[q]? = H[q]?) → va_S A0 s.heap H1 locs1 → W p l e R s m args below meth c H1 locs1 (cells + mc) (slots + ms) Q (F0 m (pc + 3) ls (.int r :: rest))) : W p l e R s m args below meth c H locs cells slots Q (F0 m pc ls st0) :=
  vx_calli (vx_runV S hM cw ⟨CE_blind, hrc, fun U hU hW => ⟨rfl, ⟨hU, va_K.moved hW.alike hK, NW.warm hW hN⟩, EWt.warm hW hE, EWh.moved hW.alike ((hZ.kept hS.2.1).narrow hA)⟩⟩ rfl hn hsize hst (lv_room hW) hdg hf) hS (fun q _ h => hA q h) hA (fun q _ h => h.elim)
    (fun E ce q9 u t H1 locs1 ht _ _ hX hz hk hS1 hce hcv hcl => kx E ce q9 H1 locs1 hX hz (fun q hq => hk q hq (fun h => h.elim)) hS1 hce hcv hcl)
    (fun r u t H1 locs1 ht _ hp hB hz hk hS1 => by
      have e : u = H1 := hB.symm.trans ht
      subst e
      exact kk r u locs1 hp hz hk hS1)
end DPL
def LCt (U : State) : Prop := va_Nc xA xI U ∧ va_Nc xS xI U ∧ va_Nc xS xA U
theorem LCt.moved {u U : State} (hvm : u.vm.Alike U.vm) (h : LCt u) : LCt U := ⟨va_Nc.moved hvm h.1, va_Nc.moved hvm h.2.1, va_Nc.moved hvm h.2.2⟩
def CL (D : va_G) (G : Nat → ClassId) (A : Nat → Prop) (H : Heap) : State → Prop := fun U => CX D G H U ∧ EWt U ∧ EWh A U H ∧ LCt U
theorem CL_blind {D : va_G} {G : Nat → ClassId} {A : Nat → Prop} {H : Heap} {av : List Value} : FrameBlind (va_Pc av (CL D G A H)) := fun a U g mk q => ⟨q.1, ⟨q.2.1.1, va_K.moved (u := U) (U := U.calling g mk a) (Vm.Alike.refl U.vm) q.2.1.2.1, NW.same (u := U) (U := U.calling g mk a) rfl q.2.1.2.2⟩, EWt.same (u := U) (U := U.calling g mk a) rfl q.2.2.1, EWh.moved (u := U) (U := U.calling g mk a) (Vm.Alike.refl U.vm) q.2.2.2.1, LCt.moved (u := U) (U := U.calling g mk a) (Vm.Alike.refl U.vm) q.2.2.2.2⟩
/-- the object's cells and the law's own row of one -/
def AL (α : Nat → Nat) : Nat → Prop := fun q => A5 α q ∨ q = α 114
theorem DP.all {D : va_G} {G : Nat → ClassId} {α w : Nat → Nat} {R RT RS : Nat → Int32} {kp : Int32} {sv : Nat → Nat → Int32} {n : Nat} {F : Nat → Int32} {len : Nat} {H H1 : Heap} (h : DP D G α w R RT RS kp sv n F len H) (hw : pm w) (hk : ∀ k, k < 104 → α k < H.size → H1[α k]? = H[α k]?) : DP D G α w R RT RS kp sv n F len H1 := by
  have K : ∀ k, k < 115 → ¬ (fun k => 104 ≤ k) k → α k < H.size → H1[α k]? = H[α k]? := fun k _ h2 h3 => hk k (by omega) h3
  obtain ⟨h0, h1, h2, h3, h4, h5⟩ := h
  exact ⟨h0.kept (K 0 (by omega) (by omega) h0.lt), h1.kp (by omega) K (fun k q1 q2 => by omega), h2.kp (by omega) K (fun k q1 q2 => by omega), h3.kp (by omega) K (fun k q1 q2 => by omega), h4.kp hw K (by omega) (by omega) (fun k q1 q2 => by omega), h5.kp K (by omega) (by omega)⟩
theorem DW.all {D : va_G} {G : Nat → ClassId} {α : Nat → Nat} {R RS : Nat → Int32} {kp : Int32} {sv : Nat → Nat → Int32} {n : Nat} {F : Nat → Int32} {len : Nat} {H H1 : Heap} (h : DW D G α R RS kp sv n F len H) (hk : ∀ k, k < 104 → α k < H.size → H1[α k]? = H[α k]?) : DW D G α R RS kp sv n F len H1 := by
  obtain ⟨w, RT, hw, hD⟩ := h
  exact ⟨w, RT, hw, hD.all hw hk⟩
theorem A5_114 {α : Nat → Nat} (hα : inj 115 α) : ¬ A5 α (α 114) := by
  intro h
  obtain ⟨k, hk, e⟩ := h
  have := hα 114 k (by omega) (by omega) e
  omega
theorem a114 {α : Nat → Nat} (hα : inj 115 α) {k : Nat} (hk : k < 104) : α k ≠ α 114 := fun e => by
  have := hα k 114 (by omega) (by omega) e
  omega
/-! ranges out of a code that is 0 -/
theorem nS_0 {i k : Int32} (h : nS i k = 0) : (∃ j : Nat, j < 3 ∧ i = nI j) ∧ k = 0 := by
  unfold nS at h
  have h0 : ¬ i < 0 := fun q => by rw [if_pos q] at h; exact absurd h (by decide)
  rw [if_neg h0] at h
  have h1 : ¬ 3 ≤ i := fun q => by rw [if_pos q] at h; exact absurd h (by decide)
  rw [if_neg h1] at h
  exact ⟨in_of (N := 3) (by decide) h0 h1, h⟩
theorem nF_0 {i k : Int32} (h : nF i k = 0) : (∃ j : Nat, j < 4 ∧ i = nI j) ∧ k = 0 := by
  unfold nF at h
  have h0 : ¬ i < 0 := fun q => by rw [if_pos q] at h; exact absurd h (by decide)
  rw [if_neg h0] at h
  have h1 : ¬ 4 ≤ i := fun q => by rw [if_pos q] at h; exact absurd h (by decide)
  rw [if_neg h1] at h
  exact ⟨in_of (N := 4) (by decide) h0 h1, h⟩
theorem nR_0 {v a b c k : Int32} (hc : ¬ c = 0) (h : nR v a b c k = 0) : (¬ v < a ∧ ¬ b < v) ∧ k = 0 := by
  unfold nR at h
  have h0 : ¬ v < a := fun q => by rw [if_pos q] at h; exact hc h
  rw [if_neg h0] at h
  have h1 : ¬ b < v := fun q => by rw [if_pos q] at h; exact hc h
  rw [if_neg h1] at h
  exact ⟨⟨h0, h1⟩, h⟩
/-! rows of any number -/
theorem mono_of {R R' : Nat → Int32} (h : gd R) (hR : ∀ k, 8 ≤ k → k < 38 → R' k = R k) : mono R' := by
  have hA : ∀ i, i < 3 → gdA R' i := fun i hi => gdA_c (h.1 i hi) (fun w hw => hR _ (by omega) (by omega))
  intro j k hjk hk e
  simp only [fok, decide_eq_true_eq] at e ⊢
  refine Int32.le_trans e ?_
  have T : ∀ q, q ≤ 600 → (tot R' (nI (4700 + q))).toInt = (gv R' 0 (nI (4700 + q))).toInt + (gv R' 1 (nI (4700 + q))).toInt + (gv R' 2 (nI (4700 + q))).toInt := fun q hq => by
    have h0 := gv_b (hA 0 (by omega)) hq; have h1 := gv_b (hA 1 (by omega)) hq; have h2 := gv_b (hA 2 (by omega)) hq
    rw [← tot3, Int32.toInt_add, Int32.toInt_add, Int.bmod_eq_of_le (n := (gv R' 0 (nI (4700 + q))).toInt + (gv R' 1 (nI (4700 + q))).toInt) (by omega) (by omega), Int.bmod_eq_of_le (by omega) (by omega)]
  rw [Int32.le_iff_toInt_le, T k hk, T j (Nat.le_trans hjk hk)]
  have h0 := gv_m (hA 0 (by omega)) hjk hk; have h1 := gv_m (hA 1 (by omega)) hjk hk; have h2 := gv_m (hA 2 (by omega)) hjk hk
  omega
theorem mono_sw {R : Nat → Int32} {j : Nat} {x : Int32} (h : gd R) (hx : x = 0 ∨ x = 1) : mono (rst (upd R (12 + 10 * j) x) j) := by
  by_cases q : j < 3
  · exact gd_mono (gd_sw (k := 12) h q (Or.inr rfl) hx)
  · exact mono_of h (fun k h1 h2 => by rw [rst_at (by omega), upd_ne (by omega)])
theorem mono_us {R : Nat → Int32} {j k : Nat} (h : gd R) (hk : k ≤ 600) : mono (usp R j (nI (4700 + k))) := by
  by_cases q : j < 3
  · exact gd_mono (gd_usp h q hk)
  · exact mono_of h (fun k h1 h2 => upd_ne (by omega))
theorem cIf_m {R : Nat → Int32} {i v q : Int32} (h : gd R) (h0 : cIf i v q = 0) : mono (usp R (ix i) v) := by
  obtain ⟨-, h1⟩ := nS_0 h0
  obtain ⟨h2, -⟩ := nR_0 (by decide) h1
  obtain ⟨a, ha, rfl⟩ := sp_in h2
  exact mono_us h ha
/-! ranges and budgets behind each call -/
theorem gb_build {R : Nat → Int32} {i r d : Int32} {c : Nat} (h : gd R) (hb : bud R c) (h0 : cBuild R i r d = 0) : gd (upd (upd R (8 + 10 * ix i) r) (9 + 10 * ix i) d) ∧ bud (upd (upd R (8 + 10 * ix i) r) (9 + 10 * ix i) d) c := by
  obtain ⟨⟨j, hj, rfl⟩, h1⟩ := nS_0 h0
  obtain ⟨h2, h3⟩ := nR_0 (by decide) h1
  obtain ⟨h4, -⟩ := nR_0 (by decide) h3
  obtain ⟨a, a1, a2, rfl⟩ := in_nI (a := 100) (b := 500) rfl rfl (by decide) (by decide) h2
  obtain ⟨b, b1, b2, rfl⟩ := in_nI (a := 100) (b := 400) rfl rfl (by decide) (by decide) h4
  rw [ix_nI (by omega)]
  exact ⟨gd_bld h hj a1 a2 b1 b2, bud_c hb (by rw [upd_ne (by omega), upd_ne (by omega)]) (by rw [upd_ne (by omega), upd_ne (by omega)])⟩
theorem gb_speed {R : Nat → Int32} {i v : Int32} {c : Nat} (h : gd R) (hb : bud R c) (h0 : cSpeed i v = 0) : gd (upd R (10 + 10 * ix i) v) ∧ bud (upd R (10 + 10 * ix i) v) c := by
  obtain ⟨⟨j, hj, rfl⟩, h1⟩ := nS_0 h0
  obtain ⟨h2, -⟩ := nR_0 (by decide) h1
  obtain ⟨a, ha, rfl⟩ := sp_in h2
  rw [ix_nI (by omega)]
  exact ⟨gd_usp h hj ha, bud_c hb (upd_ne (by omega)) (upd_ne (by omega))⟩
theorem gb_sw {R : Nat → Int32} {i x : Int32} {k c : Nat} (h : gd R) (hb : bud R c) (hi : ∃ j : Nat, j < 3 ∧ i = nI j) (hk : k = 11 ∨ k = 12) (hx : x = 0 ∨ x = 1) : gd (rst (upd R (k + 10 * ix i) x) (ix i)) ∧ bud (rst (upd R (k + 10 * ix i) x) (ix i)) c := by
  obtain ⟨j, hj, rfl⟩ := hi
  rw [ix_nI (by omega)]
  exact ⟨gd_sw h hj hk hx, bud_c hb (by rw [rst_at (by omega), upd_ne (by omega)]) (by rw [rst_at (by omega), upd_ne (by omega)])⟩
theorem gb_load {R : Nat → Int32} {i v : Int32} {c : Nat} (h : gd R) (hb : bud R c) (h0 : cLoad i v = 0) : gd (upd R (38 + 3 * ix i) v) ∧ bud (upd R (38 + 3 * ix i) v) c := by
  obtain ⟨⟨j, hj, rfl⟩, h1⟩ := nF_0 h0
  obtain ⟨h2, -⟩ := nR_0 (by decide) h1
  obtain ⟨a, -, ha, rfl⟩ := in_nI (a := 0) (b := 300) rfl rfl (by decide) (by decide) h2
  rw [ix_nI (by omega)]
  exact ⟨gd_load h hj ha, bud_c hb (upd_ne (by omega)) (upd_ne (by omega))⟩
theorem gb_feed {R : Nat → Int32} {i v : Int32} {c : Nat} (h : gd R) (hb : bud R c) (h0 : cFeed i v = 0) : gd (upd R (39 + 3 * ix i) v) ∧ bud (upd R (39 + 3 * ix i) v) c := by
  obtain ⟨⟨j, hj, rfl⟩, h1⟩ := nF_0 h0
  obtain ⟨h2, -⟩ := nR_0 (by decide) h1
  have h3 : v = 0 ∨ v = 1 := by
    by_cases q : v = 1
    · exact Or.inr q
    · exact Or.inl (v0_of h2 q)
  rw [ix_nI (by omega)]
  exact ⟨gd_feed h hj h3, bud_c hb (upd_ne (by omega)) (upd_ne (by omega))⟩
theorem gb_pass {R : Nat → Int32} {t : Int32} {c : Nat} (h : gd R) (hb : bud R c) (h0 : cPass t = 0) : gd (pt R (ix t)) ∧ bud (pt R (ix t)) (c + 99) := by
  obtain ⟨h2, -⟩ := nR_0 (by decide) h0
  obtain ⟨j, hj, rfl⟩ := pass_nI h2
  rw [ix_nI (by omega)]
  exact ⟨gd_pt h _, bud_le (bud_pt h hb j) (by omega)⟩
theorem gb_set {R : Nat → Int32} {i v : Int32} {c : Nat} (h : gd R) (hb : bud R c) (h0 : cSet i v = 0) : gd (upd R (ix i) v) ∧ bud (upd R (ix i) v) c := by
  obtain ⟨⟨j, hj, rfl⟩, h1⟩ := nF_0 h0
  rw [ix_nI (by omega)] at h1 ⊢
  obtain ⟨h2, -⟩ := nR_0 (by decide) h1
  refine ⟨?_, bud_c hb (upd_ne (by omega)) (upd_ne (by omega))⟩
  by_cases q : j < 2
  · refine gd_set h q ?_
    have := h2.1
    rw [lst, if_pos q] at this
    exact Int32.not_lt.mp this
  · exact gd_lo h (by omega)
theorem oby_gb {F : Nat → Int32} {len : Nat} (hc : dfa F len = 16 ∨ dfa F len = 15) : ∀ (m a i : Nat) (R : Nat → Int32) (c : Nat), (a < len → dfa F a = 1) → gd R → bud R c → gd (oby F len m a i R).2 ∧ bud (oby F len m a i R).2 (c + 99 * (len - a)) := by
  intro m
  induction m with
  | zero => intro a i R c _ hg hb; exact ⟨hg, bud_le hb (by omega)⟩
  | succ m ih =>
    intro a i R c hd hg hb
    by_cases hl : len ≤ a
    · rw [oby_stop hl]; exact ⟨hg, bud_le hb (by omega)⟩
    · obtain ⟨e, hl2, ⟨y2, y3, hr⟩, he, hn⟩ := ord_at hc (by omega) (hd (by omega))
      have hk := ord_K hl2 hr
      have g1 := gd_aco hg (ord_num hk); have b1 := bud_aco hg hb (ord_num hk)
      rw [← car_aco hk] at g1 b1
      have h1 := hr.1; have h2 := hr.2.1
      rw [oby, if_neg hl, he]
      split
      · exact ⟨g1, bud_le b1 (by omega)⟩
      · obtain ⟨x, z⟩ := ih (e + 1) (i + 1) _ (c + 99) (fun q => hn (by omega)) g1 b1
        exact ⟨x, bud_le z (by omega)⟩
theorem gb_obey {F : Nat → Int32} {len c : Nat} {R : Nat → Int32} (h : gd R) (hb : bud R c) (h0 : cObey F len = 0) : gd (oby F len 60 0 0 R).2 ∧ bud (oby F len 60 0 0 R).2 (c + 99 * len) :=
  oby_gb (obJ_0 h h0).2.1 60 0 0 R c (fun _ => rfl) h hb
