/-! the law's own rows of numbers: d (30), f (12), n (8), p (4), as one row R of 50 and the powers P -/
/-- the two tables of the settings' ranges -/
def ST2 (A : Nat → Prop) (U : State) (H : Heap) : Prop := stA "LEAST_OF_SETTING" lst A U H ∧ stA "MOST_OF_SETTING" mst A U H
theorem ST2.moved {A : Nat → Prop} {u U : State} {H : Heap} (hvm : u.vm.Alike U.vm) (h : ST2 A u H) : ST2 A U H := ⟨h.1.moved hvm, h.2.moved hvm⟩
theorem ST2.kept {A : Nat → Prop} {U : State} {H H1 : Heap} (h : ST2 A U H) (hq : ∀ a : Nat, a < H.size → ¬ A a → H1[a]? = H[a]?) : ST2 A U H1 := ⟨h.1.kept hq, h.2.kept hq⟩
theorem ST2.narrow {A B : Nat → Prop} {U : State} {H : Heap} (h : ST2 A U H) (hAB : ∀ q, B q → A q) : ST2 B U H := ⟨h.1.narrow hAB, h.2.narrow hAB⟩
def CS (D : va_G) (G : Nat → ClassId) (A : Nat → Prop) (H : Heap) : State → Prop := fun U => CX D G H U ∧ ST2 A U H
theorem CS_blind {D : va_G} {G : Nat → ClassId} {A : Nat → Prop} {H : Heap} {av : List Value} : FrameBlind (va_Pc av (CS D G A H)) := fun a U g mk q => ⟨q.1, ⟨q.2.1.1, va_K.moved (u := U) (U := U.calling g mk a) (Vm.Alike.refl U.vm) q.2.1.2.1, NW.same (u := U) (U := U.calling g mk a) rfl q.2.1.2.2⟩, ST2.moved (u := U) (U := U.calling g mk a) (Vm.Alike.refl U.vm) q.2.2⟩
/-- the law's script -/
def CXs (D : va_G) (G : Nat → ClassId) (b L : Nat) (xs : Nat → Int32) (H : Heap) : State → Prop := fun U => CX D G H U ∧ va_X b L xs U H
theorem CXs_blind {D : va_G} {G : Nat → ClassId} {b L : Nat} {xs : Nat → Int32} {H : Heap} {av : List Value} : FrameBlind (va_Pc av (CXs D G b L xs H)) := fun a U g mk q => ⟨q.1, ⟨q.2.1.1, va_K.moved (u := U) (U := U.calling g mk a) (Vm.Alike.refl U.vm) q.2.1.2.1, NW.same (u := U) (U := U.calling g mk a) rfl q.2.1.2.2⟩, va_X.moved (u := U) (U := U.calling g mk a) (Vm.Alike.refl U.vm) q.2.2⟩
section DPS0
variable {p : Program} {l : Launch} {e : Env} {R : Room} {s : State} {m : MethodId} {args : Array Value} {below : List Frame} {meth : Method} {c : Code} {H : Heap} {locs : List Loc} {cells slots : Nat} {Q : State → Prop}
variable {cc : ByteArray} {pc : Nat} {ls : Array Slot} {D : va_G} {G : Nat → ClassId} {A0 A1 : Nat → Prop} {H0 : Heap}
variable {y : MethodName} {bytes : ByteArray} {maxL nL mc ms n index : Nat} {ret : Option FieldType} {ws : List Cond} {rm : Room} {Ts : List Cond} {own C : String} {b : Addr} {As st0 : List Value}
theorem dp_Sv {P : Heap → Prop} (S : CallFix p m c cc nL s args Ts own) (hK : va_K D vwCl (tyS G) s) (hN : NW s) (hM : Met l y ws rm (va_Pc As (CX D G H)) (QV A1 P) mc ms A1) (cw : CallB R s args own index y bytes maxL ret ws rm mc ms n ∧ (Cond.static y).before args s = true) (hS : va_S A0 H0 H locs) (hA : ∀ q, A1 q → A0 q) (rest : List Value) (hst : st0 = As.reverse ++ rest) (hn : As.length = n) (hsize : ls.size = nL) (hW : (rest.map fun v => v.category).sum ≤ 8) (hdg : decode cc pc = .ok (.invokestatic index, 3)) (hf : cells + mc ≤ R.cells ∧ slots + ms ≤ R.slots)
    (kk : ∀ (H1 : Heap) (locs1 : List Loc), P H1 → H.size ≤ H1.size → (∀ q : Nat, q < H.size → ¬ A1 q → H1[q]? = H[q]?) → va_S A0 H0 H1 locs1 → W p l e R s m args below meth c H1 locs1 (cells + mc) (slots + ms) Q (F0 m (pc + 3) ls rest)) : W p l e R s m args below meth c H locs cells slots Q (F0 m pc ls st0) :=
  va_callv (va_runS S hM cw ⟨CX_blind, fun U hU hW => ⟨rfl, hU, va_K.moved hW.alike hK, NW.warm hW hN⟩⟩ rfl hn hsize hst (lv_room hW) hdg hf) hS (fun q _ h => hA q h) hA (fun u t H1 locs1 ht _ hp hB hz hk hS1 => by
    have e : u = H1 := hB.symm.trans ht
    subst e
    exact kk u locs1 hp hz hk hS1)
/-- a static call in the wider world -/
theorem dpe_Si {P : Int32 → Heap → Prop} (S : CallFix p m c cc nL s args Ts own) (hK : va_K D vwCl (tyS G) s) (hN : NW s) (hZ : ST2 A0 s s.heap) (hM : Met l y ws rm (va_Pc As (CS D G A1 H)) (QI A1 P) mc ms A1) (cw : CallB R s args own index y bytes maxL ret ws rm mc ms n ∧ (Cond.static y).before args s = true) (hS : va_S A0 s.heap H locs) (hA : ∀ q, A1 q → A0 q) (rest : List Value) (hst : st0 = As.reverse ++ rest) (hn : As.length = n) (hsize : ls.size = nL) (hW : (rest.map fun v => v.category).sum ≤ 8) (hdg : decode cc pc = .ok (.invokestatic index, 3)) (hf : cells + mc ≤ R.cells ∧ slots + ms ≤ R.slots)
    (kk : ∀ (r : Int32) (H1 : Heap) (locs1 : List Loc), P r H1 → H.size ≤ H1.size → (∀ q : Nat, q < H.size → ¬ A1 q → H1[q]? = H[q]?) → va_S A0 s.heap H1 locs1 → W p l e R s m args below meth c H1 locs1 (cells + mc) (slots + ms) Q (F0 m (pc + 3) ls (.int r :: rest))) : W p l e R s m args below meth c H locs cells slots Q (F0 m pc ls st0) :=
  va_calli (va_runS S hM cw ⟨CS_blind, fun U hU hW => ⟨rfl, ⟨hU, va_K.moved hW.alike hK, NW.warm hW hN⟩, ST2.moved hW.alike ((hZ.kept hS.2.1).narrow hA)⟩⟩ rfl hn hsize hst (lv_room hW) hdg hf) hS (fun q _ h => hA q h) hA (fun r u t H1 locs1 ht _ hp hB hz hk hS1 => by
    have e : u = H1 := hB.symm.trans ht
    subst e
    exact kk r u locs1 hp hz hk hS1)
theorem dps_Si {b9 L9 : Nat} {xs : Nat → Int32} {P : Int32 → Heap → Prop} (S : CallFix p m c cc nL s args Ts own) (hK : va_K D vwCl (tyS G) s) (hN : NW s) (hX : va_X b9 L9 xs s H) (hM : Met l y ws rm (va_Pc As (CXs D G b9 L9 xs H)) (QI A1 P) mc ms A1) (cw : CallB R s args own index y bytes maxL ret ws rm mc ms n ∧ (Cond.static y).before args s = true) (hS : va_S A0 H0 H locs) (hA : ∀ q, A1 q → A0 q) (rest : List Value) (hst : st0 = As.reverse ++ rest) (hn : As.length = n) (hsize : ls.size = nL) (hW : (rest.map fun v => v.category).sum ≤ 8) (hdg : decode cc pc = .ok (.invokestatic index, 3)) (hf : cells + mc ≤ R.cells ∧ slots + ms ≤ R.slots)
    (kk : ∀ (r : Int32) (H1 : Heap) (locs1 : List Loc), P r H1 → H.size ≤ H1.size → (∀ q : Nat, q < H.size → ¬ A1 q → H1[q]? = H[q]?) → va_S A0 H0 H1 locs1 → W p l e R s m args below meth c H1 locs1 (cells + mc) (slots + ms) Q (F0 m (pc + 3) ls (.int r :: rest))) : W p l e R s m args below meth c H locs cells slots Q (F0 m pc ls st0) :=
  va_calli (va_runS S hM cw ⟨CXs_blind, fun U hU hW => ⟨rfl, ⟨hU, va_K.moved hW.alike hK, NW.warm hW hN⟩, va_X.moved hW.alike hX⟩⟩ rfl hn hsize hst (lv_room hW) hdg hf) hS (fun q _ h => hA q h) hA (fun r u t H1 locs1 ht _ hp hB hz hk hS1 => by
    have e : u = H1 := hB.symm.trans ht
    subst e
    exact kk r u locs1 hp hz hk hS1)
theorem dpe_Vi {P : Int32 → Heap → Prop} (S : CallFix p m c cc nL s args Ts own) (hK : va_K D vwCl (tyS G) s) (hN : NW s) (hZ : ST2 A0 s s.heap) (hM : Met l y ws rm (va_Pc (.ref b :: As) (CS D G A1 H)) (QI A1 P) mc ms A1) (cw : CallW R s args own C index y bytes maxL ret ws rm mc ms n) (hrc : ∃ cellB : Cell, H[b]? = some cellB ∧ cellB.vm.isStatics = false ∧ s.vm.findClass C = some cellB.cls) (hS : va_S A0 s.heap H locs) (hA : ∀ q, A1 q → A0 q) (rest : List Value) (hst : st0 = As.reverse ++ .ref b :: rest) (hn : As.length = n) (hsize : ls.size = nL) (hW : (rest.map fun v => v.category).sum ≤ 8) (hdg : decode cc pc = .ok (.invokevirtual index, 3)) (hf : cells + mc ≤ R.cells ∧ slots + ms ≤ R.slots)
    (kk : ∀ (r : Int32) (H1 : Heap) (locs1 : List Loc), P r H1 → H.size ≤ H1.size → (∀ q : Nat, q < H.size → ¬ A1 q → H1[q]? = H[q]?) → va_S A0 s.heap H1 locs1 → W p l e R s m args below meth c H1 locs1 (cells + mc) (slots + ms) Q (F0 m (pc + 3) ls (.int r :: rest))) : W p l e R s m args below meth c H locs cells slots Q (F0 m pc ls st0) :=
  va_calli (va_runV S hM cw ⟨CS_blind, hrc, fun U hU hW => ⟨rfl, ⟨hU, va_K.moved hW.alike hK, NW.warm hW hN⟩, ST2.moved hW.alike ((hZ.kept hS.2.1).narrow hA)⟩⟩ rfl hn hsize hst (lv_room hW) hdg hf) hS (fun q _ h => hA q h) hA (fun r u t H1 locs1 ht _ hp hB hz hk hS1 => by
    have e : u = H1 := hB.symm.trans ht
    subst e
    exact kk r u locs1 hp hz hk hS1)
end DPS0
def dR (R : Nat → Int32) : Nat → Int32 := fun k => R (8 + k)
def fR (R : Nat → Int32) : Nat → Int32 := fun k => if k < 4 then R (38 + 3 * k) else if k < 8 then R (39 + 3 * (k - 4)) else R (40 + 3 * (k - 8))
theorem dR_at {R : Nat → Int32} {j w v : Nat} (hv : v = 8 + w) : dR R (10 * j + w) = R (v + 10 * j) := by
  unfold dR
  congr 1
  omega
theorem fR_at {R : Nat → Int32} {k g v : Nat} (hk : k < 4) (hg : g < 3) (hv : v = 38 + g) : fR R (4 * g + k) = R (v + 3 * k) := by
  unfold fR
  rcases (show g = 0 ∨ g = 1 ∨ g = 2 by omega) with rfl | rfl | rfl
  · rw [if_pos (by omega)]; congr 1; omega
  · rw [if_neg (by omega), if_pos (by omega)]; congr 1; omega
  · rw [if_neg (by omega), if_neg (by omega)]; congr 1; omega
def LB (D : va_G) (G : Nat → ClassId) (μ : Nat → Nat) (R P : Nat → Int32) (H : Heap) : Prop :=
  va_at D vwCl (μ 0, .inl (G 0, 30, .inl (dR R))) H ∧ va_at D vwCl (μ 1, .inl (G 0, 12, .inl (fR R))) H ∧ va_at D vwCl (μ 2, .inl (G 0, 8, .inl R)) H ∧ va_at D vwCl (μ 3, .inl (G 0, 4, .inl P)) H
section LBS
variable {D : va_G} {G : Nat → ClassId} {μ : Nat → Nat} {R P : Nat → Int32} {H H1 : Heap}
theorem LB.lt (h : LB D G μ R P H) : ∀ k, k < 4 → μ k < H.size := by
  intro k hk
  rcases (show k = 0 ∨ k = 1 ∨ k = 2 ∨ k = 3 by omega) with rfl | rfl | rfl | rfl
  · exact h.1.lt
  · exact h.2.1.lt
  · exact h.2.2.1.lt
  · exact h.2.2.2.lt
theorem LB.kept (h : LB D G μ R P H) (hq : ∀ k, k < 4 → H1[μ k]? = H[μ k]?) : LB D G μ R P H1 :=
  ⟨h.1.kept (hq 0 (by omega)), h.2.1.kept (hq 1 (by omega)), h.2.2.1.kept (hq 2 (by omega)), h.2.2.2.kept (hq 3 (by omega))⟩
theorem LB.off {A : Nat → Prop} (h : LB D G μ R P H) (hk : ∀ q : Nat, q < H.size → ¬ A q → H1[q]? = H[q]?) (hd : ∀ k, k < 4 → ¬ A (μ k)) : LB D G μ R P H1 := h.kept (fun k hk1 => hk _ (h.lt k hk1) (hd k hk1))
theorem fR_cong {R' : Nat → Int32} (h : ∀ k, 38 ≤ k → R' k = R k) (j : Nat) : fR R' j = fR R j := by
  unfold fR
  split
  · exact h _ (by omega)
  · split
    · exact h _ (by omega)
    · exact h _ (by omega)
/-- the row is what its places are -/
theorem LB.congr {R' P' : Nat → Int32} (h : LB D G μ R P H) (hR : ∀ k, k < 50 → R k = R' k) (hP : ∀ k, k < 4 → P k = P' k) : LB D G μ R' P' H := by
  refine ⟨at_congr h.1 (fun j hj => hR _ (by omega)), at_congr h.2.1 (fun j hj => ?_), at_congr h.2.2.1 (fun j hj => hR _ (by omega)), at_congr h.2.2.2 hP⟩
  unfold fR
  split
  · exact hR _ (by omega)
  · split
    · exact hR _ (by omega)
    · exact hR _ (by omega)
theorem LB.d {j w v : Nat} {x : Int32} (h : LB D G μ R P H) (hn : inj 4 μ) (hj : j < 3) (hw : w < 10) (hv : v = 8 + w) (ha : va_at D vwCl (μ 0, .inl (G 0, 30, .inl (upd (dR R) (10 * j + w) x))) H1) (hq : ∀ q : Nat, q ≠ μ 0 → H1[q]? = H[q]?) : LB D G μ (upd R (v + 10 * j) x) P H1 := by
  have kp : ∀ k, k < 4 → k ≠ 0 → H1[μ k]? = H[μ k]? := fun k hk hne => hq _ (fun e => hne (hn k 0 hk (by omega) e))
  refine ⟨at_congr ha (fun k hk => ?_), at_congr (h.2.1.kept (kp 1 (by omega) (by omega))) (fun k hk => (fR_cong (fun q hq => upd_ne (by omega)) k).symm), at_congr (h.2.2.1.kept (kp 2 (by omega) (by omega))) (fun k hk => (upd_ne (by omega)).symm), h.2.2.2.kept (kp 3 (by omega) (by omega))⟩
  by_cases e : k = 10 * j + w
  · rw [e, upd_eq, dR_at hv, upd_eq]
  · rw [upd_ne e]
    show R (8 + k) = upd R (v + 10 * j) x (8 + k)
    rw [upd_ne (by omega)]
theorem LB.f {k g v : Nat} {x : Int32} (h : LB D G μ R P H) (hn : inj 4 μ) (hk4 : k < 4) (hg : g < 3) (hv : v = 38 + g) (ha : va_at D vwCl (μ 1, .inl (G 0, 12, .inl (upd (fR R) (4 * g + k) x))) H1) (hq : ∀ q : Nat, q ≠ μ 1 → H1[q]? = H[q]?) : LB D G μ (upd R (v + 3 * k) x) P H1 := by
  have kp : ∀ i, i < 4 → i ≠ 1 → H1[μ i]? = H[μ i]? := fun i hi hne => hq _ (fun e => hne (hn i 1 hi (by omega) e))
  refine ⟨at_congr (h.1.kept (kp 0 (by omega) (by omega))) (fun i hi => ?_), at_congr ha (fun i hi => ?_), at_congr (h.2.2.1.kept (kp 2 (by omega) (by omega))) (fun i hi => (upd_ne (by omega)).symm), h.2.2.2.kept (kp 3 (by omega) (by omega))⟩
  · show R (8 + i) = upd R (v + 3 * k) x (8 + i)
    rw [upd_ne (by omega)]
  · obtain ⟨a, b, ha, hb, rfl⟩ : ∃ a b, a < 3 ∧ b < 4 ∧ i = 4 * a + b := ⟨i / 4, i % 4, by omega, by omega, by omega⟩
    rw [fR_at (R := upd R (v + 3 * k) x) hb ha rfl]
    by_cases e : a = g ∧ b = k
    · obtain ⟨rfl, rfl⟩ := e
      rw [upd_eq, hv, upd_eq]
    · rw [upd_ne (by omega), fR_at hb ha rfl, upd_ne (by omega)]
theorem LB.n {k : Nat} {x : Int32} (h : LB D G μ R P H) (hn : inj 4 μ) (hk : k < 8) (ha : va_at D vwCl (μ 2, .inl (G 0, 8, .inl (upd R k x))) H1) (hq : ∀ q : Nat, q ≠ μ 2 → H1[q]? = H[q]?) : LB D G μ (upd R k x) P H1 := by
  have kp : ∀ i, i < 4 → i ≠ 2 → H1[μ i]? = H[μ i]? := fun i hi hne => hq _ (fun e => hne (hn i 2 hi (by omega) e))
  refine ⟨at_congr (h.1.kept (kp 0 (by omega) (by omega))) (fun i hi => ?_), at_congr (h.2.1.kept (kp 1 (by omega) (by omega))) (fun i hi => (fR_cong (fun q hq => upd_ne (by omega)) i).symm), ha, h.2.2.2.kept (kp 3 (by omega) (by omega))⟩
  show R (8 + i) = upd R k x (8 + i)
  rw [upd_ne (by omega)]
theorem LB.p {P' : Nat → Int32} (h : LB D G μ R P H) (hn : inj 4 μ) (ha : va_at D vwCl (μ 3, .inl (G 0, 4, .inl P')) H1) (hq : ∀ q : Nat, q ≠ μ 3 → H1[q]? = H[q]?) : LB D G μ R P' H1 := by
  have kp : ∀ i, i < 4 → i ≠ 3 → H1[μ i]? = H[μ i]? := fun i hi hne => hq _ (fun e => hne (hn i 3 hi (by omega) e))
  exact ⟨h.1.kept (kp 0 (by omega) (by omega)), h.2.1.kept (kp 1 (by omega) (by omega)), h.2.2.1.kept (kp 2 (by omega) (by omega)), ha⟩
end LBS
section LBW
variable {p : Program} {l : Launch} {e : Env} {Rm : Room} {s : State} {m : MethodId} {args : Array Value} {below : List Frame} {meth : Method} {c : Code} {H : Heap} {locs : List Loc} {cells slots : Nat} {Q : State → Prop}
variable {cc : ByteArray} {pc : Nat} {ls : Array Slot} {D : va_G} {G : Nat → ClassId} {R : Nat → Int32} {a : Nat} {rest : List Value}
theorem ld_d (hexec : p.tables.exec = Jvm.exec) (hb : c.code = cc) (hK : va_K D vwCl (tyS G) s) (ha : va_at D vwCl (a, .inl (G 0, 30, .inl (dR R))) H) {i : Int32} (j w v : Nat) (hi : i = nI (10 * j + w)) (hj : j < 3) (hw : w < 10) (hv : v = 8 + w) (hdg : decode cc pc = .ok (.iaload, 1))
    (kk : W p l e Rm s m args below meth c H locs cells slots Q (F0 m (pc + 1) ls (.int (R (v + 10 * j)) :: rest))) : W p l e Rm s m args below meth c H locs cells slots Q (F0 m pc ls (.int i :: .ref a :: rest)) := by
  refine dp_iald hexec hb hK ha 0 rfl (10 * j + w) hi (by omega) (by decide) hdg ?_
  rw [dR_at hv]; exact kk
theorem ld_f (hexec : p.tables.exec = Jvm.exec) (hb : c.code = cc) (hK : va_K D vwCl (tyS G) s) (ha : va_at D vwCl (a, .inl (G 0, 12, .inl (fR R))) H) {i : Int32} (k g v : Nat) (hi : i = nI (4 * g + k)) (hk : k < 4) (hg : g < 3) (hv : v = 38 + g) (hdg : decode cc pc = .ok (.iaload, 1))
    (kk : W p l e Rm s m args below meth c H locs cells slots Q (F0 m (pc + 1) ls (.int (R (v + 3 * k)) :: rest))) : W p l e Rm s m args below meth c H locs cells slots Q (F0 m pc ls (.int i :: .ref a :: rest)) := by
  refine dp_iald hexec hb hK ha 0 rfl (4 * g + k) hi (by omega) (by decide) hdg ?_
  rw [fR_at hk hg hv]; exact kk
end LBW
theorem l10 (j : Nat) : (10 : Int32) * nI j = nI (10 * j) := by
  show Int32.ofNat 10 * Int32.ofNat j = Int32.ofNat (10 * j)
  rw [← Int32.ofNat_mul]
/-! what the law finds -/
def pwv (R : Nat → Int32) : Nat → Int32 := fun k => if k < 3 then pw R k (fq R) else lk R (fq R)
theorem pwv_3 {R : Nat → Int32} : pwv R 3 = lk R (fq R) := if_neg (by decide)
theorem pwv_i {R : Nat → Int32} {i : Nat} (h : i < 3) : pwv R i = pw R i (fq R) := if_pos h
def lmp (x : Int32) : Int32 := if 500 < x then 1000 - x else x
